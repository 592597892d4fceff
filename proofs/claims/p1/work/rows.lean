section
-- ===== PART A: goes FIRST, ahead of the names: the tables' words, and 'selects' of the private methods out of them =====
/-- a private method of a class that the tables say can be made, by its rows of tables_1 -/
def lw_okq (q : MethodName × Nat) : Prop := (q.1.cls ≠ "java/lang/invoke/MethodHandle" ∧ q.1.cls ≠ "java/lang/invoke/VarHandle") ∧ Cond.instantiable q.1.cls q.2 ∈ tables_1 ∧ Cond.privateMethod q.1 ∈ tables_1 ∧ Cond.instanceMethod q.1 ∈ tables_1
theorem lw_p0 : lw_okq (⟨"WayBoxes$Reader", "readsKind", "(I)Z"⟩, 4) := ⟨⟨by decide +kernel, by decide +kernel⟩, List.mem_of_getElem? (i := 170) (by decide +kernel), List.mem_of_getElem? (i := 338) (by decide +kernel), List.mem_of_getElem? (i := 339) (by decide +kernel)⟩
theorem lw_p1 : lw_okq (⟨"WayBoxes$Reader", "takes", "(I)Z"⟩, 4) := ⟨⟨by decide +kernel, by decide +kernel⟩, List.mem_of_getElem? (i := 170) (by decide +kernel), List.mem_of_getElem? (i := 342) (by decide +kernel), List.mem_of_getElem? (i := 343) (by decide +kernel)⟩
theorem lw_p2 : lw_okq (⟨"WayBoxes$Reader", "takesDigit", "(I)I"⟩, 4) := ⟨⟨by decide +kernel, by decide +kernel⟩, List.mem_of_getElem? (i := 170) (by decide +kernel), List.mem_of_getElem? (i := 346) (by decide +kernel), List.mem_of_getElem? (i := 347) (by decide +kernel)⟩
theorem lw_p3 : lw_okq (⟨"WayBoxes$Reader", "readsE", "(I)Z"⟩, 4) := ⟨⟨by decide +kernel, by decide +kernel⟩, List.mem_of_getElem? (i := 170) (by decide +kernel), List.mem_of_getElem? (i := 350) (by decide +kernel), List.mem_of_getElem? (i := 351) (by decide +kernel)⟩
theorem lw_p4 : lw_okq (⟨"WayBoxes$Reader", "readsT", "(I)Z"⟩, 4) := ⟨⟨by decide +kernel, by decide +kernel⟩, List.mem_of_getElem? (i := 170) (by decide +kernel), List.mem_of_getElem? (i := 354) (by decide +kernel), List.mem_of_getElem? (i := 355) (by decide +kernel)⟩
theorem lw_p5 : lw_okq (⟨"WayBoxes$Reader", "readsF", "(I)Z"⟩, 4) := ⟨⟨by decide +kernel, by decide +kernel⟩, List.mem_of_getElem? (i := 170) (by decide +kernel), List.mem_of_getElem? (i := 358) (by decide +kernel), List.mem_of_getElem? (i := 359) (by decide +kernel)⟩
theorem lw_p6 : lw_okq (⟨"WayBoxes$Reader", "next", "()I"⟩, 4) := ⟨⟨by decide +kernel, by decide +kernel⟩, List.mem_of_getElem? (i := 170) (by decide +kernel), List.mem_of_getElem? (i := 362) (by decide +kernel), List.mem_of_getElem? (i := 363) (by decide +kernel)⟩
theorem lw_p7 : lw_okq (⟨"WayBoxes$Reader", "readsTest", "()Z"⟩, 4) := ⟨⟨by decide +kernel, by decide +kernel⟩, List.mem_of_getElem? (i := 170) (by decide +kernel), List.mem_of_getElem? (i := 366) (by decide +kernel), List.mem_of_getElem? (i := 367) (by decide +kernel)⟩
theorem lw_p8 : lw_okq (⟨"WayBoxes$Reader", "term", "()I"⟩, 4) := ⟨⟨by decide +kernel, by decide +kernel⟩, List.mem_of_getElem? (i := 170) (by decide +kernel), List.mem_of_getElem? (i := 370) (by decide +kernel), List.mem_of_getElem? (i := 371) (by decide +kernel)⟩
theorem lw_p9 : lw_okq (⟨"WayBoxes$Reader", "readsActs", "(I)Z"⟩, 4) := ⟨⟨by decide +kernel, by decide +kernel⟩, List.mem_of_getElem? (i := 170) (by decide +kernel), List.mem_of_getElem? (i := 382) (by decide +kernel), List.mem_of_getElem? (i := 383) (by decide +kernel)⟩
theorem lw_p10 : lw_okq (⟨"WayBoxes$Reader", "readsAct", "()Z"⟩, 4) := ⟨⟨by decide +kernel, by decide +kernel⟩, List.mem_of_getElem? (i := 170) (by decide +kernel), List.mem_of_getElem? (i := 386) (by decide +kernel), List.mem_of_getElem? (i := 387) (by decide +kernel)⟩
theorem lw_p11 : lw_okq (⟨"WayBoxes$Reader", "readsSum", "(I)Z"⟩, 4) := ⟨⟨by decide +kernel, by decide +kernel⟩, List.mem_of_getElem? (i := 170) (by decide +kernel), List.mem_of_getElem? (i := 390) (by decide +kernel), List.mem_of_getElem? (i := 391) (by decide +kernel)⟩
theorem lw_p12 : lw_okq (⟨"WayBoxes$Reader", "handsOver", "()LWayBoxes$Text;"⟩, 4) := ⟨⟨by decide +kernel, by decide +kernel⟩, List.mem_of_getElem? (i := 170) (by decide +kernel), List.mem_of_getElem? (i := 398) (by decide +kernel), List.mem_of_getElem? (i := 399) (by decide +kernel)⟩
theorem lw_p13 : lw_okq (⟨"WayBoxes$Text", "holds", "(ILWayBoxes$Packet;LWayBoxes$Memory;)Z"⟩, 9) := ⟨⟨by decide +kernel, by decide +kernel⟩, List.mem_of_getElem? (i := 287) (by decide +kernel), List.mem_of_getElem? (i := 481) (by decide +kernel), List.mem_of_getElem? (i := 482) (by decide +kernel)⟩
theorem lw_p14 : lw_okq (⟨"WayBoxes$Text", "sumOf", "(IILWayBoxes$Packet;LWayBoxes$Memory;)I"⟩, 9) := ⟨⟨by decide +kernel, by decide +kernel⟩, List.mem_of_getElem? (i := 287) (by decide +kernel), List.mem_of_getElem? (i := 511) (by decide +kernel), List.mem_of_getElem? (i := 512) (by decide +kernel)⟩
theorem lw_p15 : lw_okq (⟨"WayBoxes$Search", "partsWays", "(ILWayBoxes$Packet;)Z"⟩, 10) := ⟨⟨by decide +kernel, by decide +kernel⟩, List.mem_of_getElem? (i := 190) (by decide +kernel), List.mem_of_getElem? (i := 646) (by decide +kernel), List.mem_of_getElem? (i := 647) (by decide +kernel)⟩
def lw_privs_1 : List (MethodName × Nat) := [(⟨"WayBoxes$Reader", "readsKind", "(I)Z"⟩, 4), (⟨"WayBoxes$Reader", "takes", "(I)Z"⟩, 4), (⟨"WayBoxes$Reader", "takesDigit", "(I)I"⟩, 4), (⟨"WayBoxes$Reader", "readsE", "(I)Z"⟩, 4), (⟨"WayBoxes$Reader", "readsT", "(I)Z"⟩, 4), (⟨"WayBoxes$Reader", "readsF", "(I)Z"⟩, 4), (⟨"WayBoxes$Reader", "next", "()I"⟩, 4), (⟨"WayBoxes$Reader", "readsTest", "()Z"⟩, 4), (⟨"WayBoxes$Reader", "term", "()I"⟩, 4), (⟨"WayBoxes$Reader", "readsActs", "(I)Z"⟩, 4), (⟨"WayBoxes$Reader", "readsAct", "()Z"⟩, 4), (⟨"WayBoxes$Reader", "readsSum", "(I)Z"⟩, 4), (⟨"WayBoxes$Reader", "handsOver", "()LWayBoxes$Text;"⟩, 4), (⟨"WayBoxes$Text", "holds", "(ILWayBoxes$Packet;LWayBoxes$Memory;)Z"⟩, 9), (⟨"WayBoxes$Text", "sumOf", "(IILWayBoxes$Packet;LWayBoxes$Memory;)I"⟩, 9), (⟨"WayBoxes$Search", "partsWays", "(ILWayBoxes$Packet;)Z"⟩, 10)]
theorem lw_r1 : ∀ q ∈ lw_privs_1, lw_okq q := List.forall_mem_cons.mpr ⟨lw_p0, List.forall_mem_cons.mpr ⟨lw_p1, List.forall_mem_cons.mpr ⟨lw_p2, List.forall_mem_cons.mpr ⟨lw_p3, List.forall_mem_cons.mpr ⟨lw_p4, List.forall_mem_cons.mpr ⟨lw_p5, List.forall_mem_cons.mpr ⟨lw_p6, List.forall_mem_cons.mpr ⟨lw_p7, List.forall_mem_cons.mpr ⟨lw_p8, List.forall_mem_cons.mpr ⟨lw_p9, List.forall_mem_cons.mpr ⟨lw_p10, List.forall_mem_cons.mpr ⟨lw_p11, List.forall_mem_cons.mpr ⟨lw_p12, List.forall_mem_cons.mpr ⟨lw_p13, List.forall_mem_cons.mpr ⟨lw_p14, List.forall_mem_cons.mpr ⟨lw_p15, fun _ h => absurd h List.not_mem_nil⟩⟩⟩⟩⟩⟩⟩⟩⟩⟩⟩⟩⟩⟩⟩⟩
theorem lw_p16 : lw_okq (⟨"WayBoxes$Search", "carried", "(II)LWayBoxes$Memory;"⟩, 10) := ⟨⟨by decide +kernel, by decide +kernel⟩, List.mem_of_getElem? (i := 190) (by decide +kernel), List.mem_of_getElem? (i := 650) (by decide +kernel), List.mem_of_getElem? (i := 651) (by decide +kernel)⟩
theorem lw_p17 : lw_okq (⟨"WayBoxes$Search", "breaks", "(ILWayBoxes$Packet;)Z"⟩, 10) := ⟨⟨by decide +kernel, by decide +kernel⟩, List.mem_of_getElem? (i := 190) (by decide +kernel), List.mem_of_getElem? (i := 657) (by decide +kernel), List.mem_of_getElem? (i := 658) (by decide +kernel)⟩
theorem lw_p18 : lw_okq (⟨"WayBoxes$Watch", "opensMany", "(II)Z"⟩, 6) := ⟨⟨by decide +kernel, by decide +kernel⟩, List.mem_of_getElem? (i := 201) (by decide +kernel), List.mem_of_getElem? (i := 670) (by decide +kernel), List.mem_of_getElem? (i := 671) (by decide +kernel)⟩
theorem lw_p19 : lw_okq (⟨"WayBoxes$Watch", "isTwice", "(I)Z"⟩, 6) := ⟨⟨by decide +kernel, by decide +kernel⟩, List.mem_of_getElem? (i := 201) (by decide +kernel), List.mem_of_getElem? (i := 674) (by decide +kernel), List.mem_of_getElem? (i := 675) (by decide +kernel)⟩
theorem lw_p20 : lw_okq (⟨"WayBoxes$Search", "swap", "(II)V"⟩, 10) := ⟨⟨by decide +kernel, by decide +kernel⟩, List.mem_of_getElem? (i := 190) (by decide +kernel), List.mem_of_getElem? (i := 690) (by decide +kernel), List.mem_of_getElem? (i := 691) (by decide +kernel)⟩
theorem lw_p21 : lw_okq (⟨"WayBoxes$Trace", "runsFrom", "(IIII)I"⟩, 5) := ⟨⟨by decide +kernel, by decide +kernel⟩, List.mem_of_getElem? (i := 36) (by decide +kernel), List.mem_of_getElem? (i := 702) (by decide +kernel), List.mem_of_getElem? (i := 703) (by decide +kernel)⟩
theorem lw_p22 : lw_okq (⟨"WayBoxes$Trace", "answerOf", "(IIII)I"⟩, 5) := ⟨⟨by decide +kernel, by decide +kernel⟩, List.mem_of_getElem? (i := 36) (by decide +kernel), List.mem_of_getElem? (i := 710) (by decide +kernel), List.mem_of_getElem? (i := 711) (by decide +kernel)⟩
theorem lw_p23 : lw_okq (⟨"WayBoxesModel", "lineHere", "()V"⟩, 44) := ⟨⟨by decide +kernel, by decide +kernel⟩, List.mem_of_getElem? (i := 751) (by decide +kernel), List.mem_of_getElem? (i := 902) (by decide +kernel), List.mem_of_getElem? (i := 903) (by decide +kernel)⟩
theorem lw_p24 : lw_okq (⟨"WayBoxesModel", "here", "()I"⟩, 44) := ⟨⟨by decide +kernel, by decide +kernel⟩, List.mem_of_getElem? (i := 751) (by decide +kernel), List.mem_of_getElem? (i := 906) (by decide +kernel), List.mem_of_getElem? (i := 907) (by decide +kernel)⟩
theorem lw_p25 : lw_okq (⟨"WayBoxesModel", "emits", "(I)V"⟩, 44) := ⟨⟨by decide +kernel, by decide +kernel⟩, List.mem_of_getElem? (i := 751) (by decide +kernel), List.mem_of_getElem? (i := 910) (by decide +kernel), List.mem_of_getElem? (i := 911) (by decide +kernel)⟩
theorem lw_p26 : lw_okq (⟨"WayBoxesModel", "some", "()V"⟩, 44) := ⟨⟨by decide +kernel, by decide +kernel⟩, List.mem_of_getElem? (i := 751) (by decide +kernel), List.mem_of_getElem? (i := 914) (by decide +kernel), List.mem_of_getElem? (i := 915) (by decide +kernel)⟩
theorem lw_p27 : lw_okq (⟨"WayBoxesModel", "every", "()V"⟩, 44) := ⟨⟨by decide +kernel, by decide +kernel⟩, List.mem_of_getElem? (i := 751) (by decide +kernel), List.mem_of_getElem? (i := 918) (by decide +kernel), List.mem_of_getElem? (i := 919) (by decide +kernel)⟩
theorem lw_p28 : lw_okq (⟨"WayBoxesModel", "factor", "()V"⟩, 44) := ⟨⟨by decide +kernel, by decide +kernel⟩, List.mem_of_getElem? (i := 751) (by decide +kernel), List.mem_of_getElem? (i := 922) (by decide +kernel), List.mem_of_getElem? (i := 923) (by decide +kernel)⟩
theorem lw_p29 : lw_okq (⟨"WayBoxesModel", "must", "(I)V"⟩, 44) := ⟨⟨by decide +kernel, by decide +kernel⟩, List.mem_of_getElem? (i := 751) (by decide +kernel), List.mem_of_getElem? (i := 926) (by decide +kernel), List.mem_of_getElem? (i := 927) (by decide +kernel)⟩
theorem lw_p30 : lw_okq (⟨"WayBoxesModel", "term", "()I"⟩, 44) := ⟨⟨by decide +kernel, by decide +kernel⟩, List.mem_of_getElem? (i := 751) (by decide +kernel), List.mem_of_getElem? (i := 930) (by decide +kernel), List.mem_of_getElem? (i := 931) (by decide +kernel)⟩
theorem lw_p31 : lw_okq (⟨"WayBoxesModel", "cellHere", "()I"⟩, 44) := ⟨⟨by decide +kernel, by decide +kernel⟩, List.mem_of_getElem? (i := 751) (by decide +kernel), List.mem_of_getElem? (i := 934) (by decide +kernel), List.mem_of_getElem? (i := 935) (by decide +kernel)⟩
def lw_privs_2 : List (MethodName × Nat) := [(⟨"WayBoxes$Search", "carried", "(II)LWayBoxes$Memory;"⟩, 10), (⟨"WayBoxes$Search", "breaks", "(ILWayBoxes$Packet;)Z"⟩, 10), (⟨"WayBoxes$Watch", "opensMany", "(II)Z"⟩, 6), (⟨"WayBoxes$Watch", "isTwice", "(I)Z"⟩, 6), (⟨"WayBoxes$Search", "swap", "(II)V"⟩, 10), (⟨"WayBoxes$Trace", "runsFrom", "(IIII)I"⟩, 5), (⟨"WayBoxes$Trace", "answerOf", "(IIII)I"⟩, 5), (⟨"WayBoxesModel", "lineHere", "()V"⟩, 44), (⟨"WayBoxesModel", "here", "()I"⟩, 44), (⟨"WayBoxesModel", "emits", "(I)V"⟩, 44), (⟨"WayBoxesModel", "some", "()V"⟩, 44), (⟨"WayBoxesModel", "every", "()V"⟩, 44), (⟨"WayBoxesModel", "factor", "()V"⟩, 44), (⟨"WayBoxesModel", "must", "(I)V"⟩, 44), (⟨"WayBoxesModel", "term", "()I"⟩, 44), (⟨"WayBoxesModel", "cellHere", "()I"⟩, 44)]
theorem lw_r2 : ∀ q ∈ lw_privs_2, lw_okq q := List.forall_mem_cons.mpr ⟨lw_p16, List.forall_mem_cons.mpr ⟨lw_p17, List.forall_mem_cons.mpr ⟨lw_p18, List.forall_mem_cons.mpr ⟨lw_p19, List.forall_mem_cons.mpr ⟨lw_p20, List.forall_mem_cons.mpr ⟨lw_p21, List.forall_mem_cons.mpr ⟨lw_p22, List.forall_mem_cons.mpr ⟨lw_p23, List.forall_mem_cons.mpr ⟨lw_p24, List.forall_mem_cons.mpr ⟨lw_p25, List.forall_mem_cons.mpr ⟨lw_p26, List.forall_mem_cons.mpr ⟨lw_p27, List.forall_mem_cons.mpr ⟨lw_p28, List.forall_mem_cons.mpr ⟨lw_p29, List.forall_mem_cons.mpr ⟨lw_p30, List.forall_mem_cons.mpr ⟨lw_p31, fun _ h => absurd h List.not_mem_nil⟩⟩⟩⟩⟩⟩⟩⟩⟩⟩⟩⟩⟩⟩⟩⟩
theorem lw_p32 : lw_okq (⟨"WayBoxesModel", "marks", "(IZ)V"⟩, 44) := ⟨⟨by decide +kernel, by decide +kernel⟩, List.mem_of_getElem? (i := 751) (by decide +kernel), List.mem_of_getElem? (i := 938) (by decide +kernel), List.mem_of_getElem? (i := 939) (by decide +kernel)⟩
theorem lw_p33 : lw_okq (⟨"WayBoxesModel", "actHere", "()V"⟩, 44) := ⟨⟨by decide +kernel, by decide +kernel⟩, List.mem_of_getElem? (i := 751) (by decide +kernel), List.mem_of_getElem? (i := 943) (by decide +kernel), List.mem_of_getElem? (i := 944) (by decide +kernel)⟩
theorem lw_p34 : lw_okq (⟨"WayBoxesModel", "sum", "(I)V"⟩, 44) := ⟨⟨by decide +kernel, by decide +kernel⟩, List.mem_of_getElem? (i := 751) (by decide +kernel), List.mem_of_getElem? (i := 947) (by decide +kernel), List.mem_of_getElem? (i := 948) (by decide +kernel)⟩
theorem lw_p35 : lw_okq (⟨"WayBoxesModel", "isText", "(I)Z"⟩, 44) := ⟨⟨by decide +kernel, by decide +kernel⟩, List.mem_of_getElem? (i := 751) (by decide +kernel), List.mem_of_getElem? (i := 955) (by decide +kernel), List.mem_of_getElem? (i := 956) (by decide +kernel)⟩
theorem lw_p36 : lw_okq (⟨"WayBoxesModel", "isBox", "(I)Z"⟩, 44) := ⟨⟨by decide +kernel, by decide +kernel⟩, List.mem_of_getElem? (i := 751) (by decide +kernel), List.mem_of_getElem? (i := 974) (by decide +kernel), List.mem_of_getElem? (i := 975) (by decide +kernel)⟩
theorem lw_p37 : lw_okq (⟨"WayBoxesModel", "packet", "(IIII)V"⟩, 44) := ⟨⟨by decide +kernel, by decide +kernel⟩, List.mem_of_getElem? (i := 751) (by decide +kernel), List.mem_of_getElem? (i := 984) (by decide +kernel), List.mem_of_getElem? (i := 985) (by decide +kernel)⟩
theorem lw_p38 : lw_okq (⟨"WayBoxesModel", "worksBox", "(I)I"⟩, 44) := ⟨⟨by decide +kernel, by decide +kernel⟩, List.mem_of_getElem? (i := 751) (by decide +kernel), List.mem_of_getElem? (i := 988) (by decide +kernel), List.mem_of_getElem? (i := 989) (by decide +kernel)⟩
theorem lw_p39 : lw_okq (⟨"WayBoxesModel", "works", "(I)I"⟩, 44) := ⟨⟨by decide +kernel, by decide +kernel⟩, List.mem_of_getElem? (i := 751) (by decide +kernel), List.mem_of_getElem? (i := 992) (by decide +kernel), List.mem_of_getElem? (i := 993) (by decide +kernel)⟩
theorem lw_p40 : lw_okq (⟨"WayBoxesModel", "isSo", "(I)Z"⟩, 44) := ⟨⟨by decide +kernel, by decide +kernel⟩, List.mem_of_getElem? (i := 751) (by decide +kernel), List.mem_of_getElem? (i := 996) (by decide +kernel), List.mem_of_getElem? (i := 997) (by decide +kernel)⟩
theorem lw_p41 : lw_okq (⟨"WayBoxesModel", "value", "(I)I"⟩, 44) := ⟨⟨by decide +kernel, by decide +kernel⟩, List.mem_of_getElem? (i := 751) (by decide +kernel), List.mem_of_getElem? (i := 1000) (by decide +kernel), List.mem_of_getElem? (i := 1001) (by decide +kernel)⟩
theorem lw_p42 : lw_okq (⟨"WayBoxesModel", "place", "(I)I"⟩, 44) := ⟨⟨by decide +kernel, by decide +kernel⟩, List.mem_of_getElem? (i := 751) (by decide +kernel), List.mem_of_getElem? (i := 1004) (by decide +kernel), List.mem_of_getElem? (i := 1005) (by decide +kernel)⟩
theorem lw_p43 : lw_okq (⟨"WayBoxesModel", "acts", "(II)I"⟩, 44) := ⟨⟨by decide +kernel, by decide +kernel⟩, List.mem_of_getElem? (i := 751) (by decide +kernel), List.mem_of_getElem? (i := 1008) (by decide +kernel), List.mem_of_getElem? (i := 1009) (by decide +kernel)⟩
theorem lw_p44 : lw_okq (⟨"WayBoxesModel", "becomes", "(II)V"⟩, 44) := ⟨⟨by decide +kernel, by decide +kernel⟩, List.mem_of_getElem? (i := 751) (by decide +kernel), List.mem_of_getElem? (i := 1012) (by decide +kernel), List.mem_of_getElem? (i := 1013) (by decide +kernel)⟩
theorem lw_p45 : lw_okq (⟨"WayBoxesModel", "isLedTo", "(I)Z"⟩, 44) := ⟨⟨by decide +kernel, by decide +kernel⟩, List.mem_of_getElem? (i := 751) (by decide +kernel), List.mem_of_getElem? (i := 1029) (by decide +kernel), List.mem_of_getElem? (i := 1030) (by decide +kernel)⟩
theorem lw_p46 : lw_okq (⟨"WayBoxesModel", "sends", "()I"⟩, 44) := ⟨⟨by decide +kernel, by decide +kernel⟩, List.mem_of_getElem? (i := 751) (by decide +kernel), List.mem_of_getElem? (i := 1037) (by decide +kernel), List.mem_of_getElem? (i := 1038) (by decide +kernel)⟩
theorem lw_p47 : lw_okq (⟨"WayBoxesModel", "isInRow", "(I)Z"⟩, 44) := ⟨⟨by decide +kernel, by decide +kernel⟩, List.mem_of_getElem? (i := 751) (by decide +kernel), List.mem_of_getElem? (i := 1046) (by decide +kernel), List.mem_of_getElem? (i := 1047) (by decide +kernel)⟩
def lw_privs_3 : List (MethodName × Nat) := [(⟨"WayBoxesModel", "marks", "(IZ)V"⟩, 44), (⟨"WayBoxesModel", "actHere", "()V"⟩, 44), (⟨"WayBoxesModel", "sum", "(I)V"⟩, 44), (⟨"WayBoxesModel", "isText", "(I)Z"⟩, 44), (⟨"WayBoxesModel", "isBox", "(I)Z"⟩, 44), (⟨"WayBoxesModel", "packet", "(IIII)V"⟩, 44), (⟨"WayBoxesModel", "worksBox", "(I)I"⟩, 44), (⟨"WayBoxesModel", "works", "(I)I"⟩, 44), (⟨"WayBoxesModel", "isSo", "(I)Z"⟩, 44), (⟨"WayBoxesModel", "value", "(I)I"⟩, 44), (⟨"WayBoxesModel", "place", "(I)I"⟩, 44), (⟨"WayBoxesModel", "acts", "(II)I"⟩, 44), (⟨"WayBoxesModel", "becomes", "(II)V"⟩, 44), (⟨"WayBoxesModel", "isLedTo", "(I)Z"⟩, 44), (⟨"WayBoxesModel", "sends", "()I"⟩, 44), (⟨"WayBoxesModel", "isInRow", "(I)Z"⟩, 44)]
theorem lw_r3 : ∀ q ∈ lw_privs_3, lw_okq q := List.forall_mem_cons.mpr ⟨lw_p32, List.forall_mem_cons.mpr ⟨lw_p33, List.forall_mem_cons.mpr ⟨lw_p34, List.forall_mem_cons.mpr ⟨lw_p35, List.forall_mem_cons.mpr ⟨lw_p36, List.forall_mem_cons.mpr ⟨lw_p37, List.forall_mem_cons.mpr ⟨lw_p38, List.forall_mem_cons.mpr ⟨lw_p39, List.forall_mem_cons.mpr ⟨lw_p40, List.forall_mem_cons.mpr ⟨lw_p41, List.forall_mem_cons.mpr ⟨lw_p42, List.forall_mem_cons.mpr ⟨lw_p43, List.forall_mem_cons.mpr ⟨lw_p44, List.forall_mem_cons.mpr ⟨lw_p45, List.forall_mem_cons.mpr ⟨lw_p46, List.forall_mem_cons.mpr ⟨lw_p47, fun _ h => absurd h List.not_mem_nil⟩⟩⟩⟩⟩⟩⟩⟩⟩⟩⟩⟩⟩⟩⟩⟩
theorem lw_p48 : lw_okq (⟨"WayBoxesModel", "leading", "(I)I"⟩, 44) := ⟨⟨by decide +kernel, by decide +kernel⟩, List.mem_of_getElem? (i := 751) (by decide +kernel), List.mem_of_getElem? (i := 1050) (by decide +kernel), List.mem_of_getElem? (i := 1051) (by decide +kernel)⟩
theorem lw_p49 : lw_okq (⟨"WayBoxesModel", "breach", "(III)I"⟩, 44) := ⟨⟨by decide +kernel, by decide +kernel⟩, List.mem_of_getElem? (i := 751) (by decide +kernel), List.mem_of_getElem? (i := 1089) (by decide +kernel), List.mem_of_getElem? (i := 1090) (by decide +kernel)⟩
theorem lw_p50 : lw_okq (⟨"WayBoxesModel", "keeps", "(III)Z"⟩, 44) := ⟨⟨by decide +kernel, by decide +kernel⟩, List.mem_of_getElem? (i := 751) (by decide +kernel), List.mem_of_getElem? (i := 1093) (by decide +kernel), List.mem_of_getElem? (i := 1094) (by decide +kernel)⟩
theorem lw_p51 : lw_okq (⟨"WayBoxesModel", "empties", "()V"⟩, 44) := ⟨⟨by decide +kernel, by decide +kernel⟩, List.mem_of_getElem? (i := 751) (by decide +kernel), List.mem_of_getElem? (i := 1097) (by decide +kernel), List.mem_of_getElem? (i := 1098) (by decide +kernel)⟩
theorem lw_p52 : lw_okq (⟨"WayBoxesModel", "tries", "(I)I"⟩, 44) := ⟨⟨by decide +kernel, by decide +kernel⟩, List.mem_of_getElem? (i := 751) (by decide +kernel), List.mem_of_getElem? (i := 1101) (by decide +kernel), List.mem_of_getElem? (i := 1102) (by decide +kernel)⟩
theorem lw_p53 : lw_okq (⟨"WayBoxesModel", "isKept", "(II)Z"⟩, 44) := ⟨⟨by decide +kernel, by decide +kernel⟩, List.mem_of_getElem? (i := 751) (by decide +kernel), List.mem_of_getElem? (i := 1105) (by decide +kernel), List.mem_of_getElem? (i := 1106) (by decide +kernel)⟩
theorem lw_p54 : lw_okq (⟨"WayBoxesModel", "next", "(I)Z"⟩, 44) := ⟨⟨by decide +kernel, by decide +kernel⟩, List.mem_of_getElem? (i := 751) (by decide +kernel), List.mem_of_getElem? (i := 1109) (by decide +kernel), List.mem_of_getElem? (i := 1110) (by decide +kernel)⟩
theorem lw_p55 : lw_okq (⟨"WayBoxesModel", "lastBy", "(II)I"⟩, 44) := ⟨⟨by decide +kernel, by decide +kernel⟩, List.mem_of_getElem? (i := 751) (by decide +kernel), List.mem_of_getElem? (i := 1117) (by decide +kernel), List.mem_of_getElem? (i := 1118) (by decide +kernel)⟩
theorem lw_p56 : lw_okq (⟨"WayBoxesModel", "arranges", "(IIIII)V"⟩, 44) := ⟨⟨by decide +kernel, by decide +kernel⟩, List.mem_of_getElem? (i := 751) (by decide +kernel), List.mem_of_getElem? (i := 1125) (by decide +kernel), List.mem_of_getElem? (i := 1126) (by decide +kernel)⟩
theorem lw_p57 : lw_okq (⟨"WayBoxesModel", "keepsActs", "(I)I"⟩, 44) := ⟨⟨by decide +kernel, by decide +kernel⟩, List.mem_of_getElem? (i := 751) (by decide +kernel), List.mem_of_getElem? (i := 1133) (by decide +kernel), List.mem_of_getElem? (i := 1134) (by decide +kernel)⟩
theorem lw_p58 : lw_okq (⟨"WayBoxesModel", "runs", "(I)V"⟩, 44) := ⟨⟨by decide +kernel, by decide +kernel⟩, List.mem_of_getElem? (i := 751) (by decide +kernel), List.mem_of_getElem? (i := 1137) (by decide +kernel), List.mem_of_getElem? (i := 1138) (by decide +kernel)⟩
theorem lw_p59 : lw_okq (⟨"WayBoxesModel", "plainKeeps", "(I)I"⟩, 44) := ⟨⟨by decide +kernel, by decide +kernel⟩, List.mem_of_getElem? (i := 751) (by decide +kernel), List.mem_of_getElem? (i := 1141) (by decide +kernel), List.mem_of_getElem? (i := 1142) (by decide +kernel)⟩
theorem lw_p60 : lw_okq (⟨"WayBoxesModel", "worksActs", "(I)I"⟩, 44) := ⟨⟨by decide +kernel, by decide +kernel⟩, List.mem_of_getElem? (i := 751) (by decide +kernel), List.mem_of_getElem? (i := 1145) (by decide +kernel), List.mem_of_getElem? (i := 1146) (by decide +kernel)⟩
theorem lw_p61 : lw_okq (⟨"WayBoxesModel", "plainWorks", "(I)I"⟩, 44) := ⟨⟨by decide +kernel, by decide +kernel⟩, List.mem_of_getElem? (i := 751) (by decide +kernel), List.mem_of_getElem? (i := 1149) (by decide +kernel), List.mem_of_getElem? (i := 1150) (by decide +kernel)⟩
theorem lw_p62 : lw_okq (⟨"WayBoxesModel", "leadsActs", "(I)I"⟩, 44) := ⟨⟨by decide +kernel, by decide +kernel⟩, List.mem_of_getElem? (i := 751) (by decide +kernel), List.mem_of_getElem? (i := 1156) (by decide +kernel), List.mem_of_getElem? (i := 1157) (by decide +kernel)⟩
theorem lw_p63 : lw_okq (⟨"WayBoxesModel", "plainLeads", "(I)I"⟩, 44) := ⟨⟨by decide +kernel, by decide +kernel⟩, List.mem_of_getElem? (i := 751) (by decide +kernel), List.mem_of_getElem? (i := 1160) (by decide +kernel), List.mem_of_getElem? (i := 1161) (by decide +kernel)⟩
def lw_privs_4 : List (MethodName × Nat) := [(⟨"WayBoxesModel", "leading", "(I)I"⟩, 44), (⟨"WayBoxesModel", "breach", "(III)I"⟩, 44), (⟨"WayBoxesModel", "keeps", "(III)Z"⟩, 44), (⟨"WayBoxesModel", "empties", "()V"⟩, 44), (⟨"WayBoxesModel", "tries", "(I)I"⟩, 44), (⟨"WayBoxesModel", "isKept", "(II)Z"⟩, 44), (⟨"WayBoxesModel", "next", "(I)Z"⟩, 44), (⟨"WayBoxesModel", "lastBy", "(II)I"⟩, 44), (⟨"WayBoxesModel", "arranges", "(IIIII)V"⟩, 44), (⟨"WayBoxesModel", "keepsActs", "(I)I"⟩, 44), (⟨"WayBoxesModel", "runs", "(I)V"⟩, 44), (⟨"WayBoxesModel", "plainKeeps", "(I)I"⟩, 44), (⟨"WayBoxesModel", "worksActs", "(I)I"⟩, 44), (⟨"WayBoxesModel", "plainWorks", "(I)I"⟩, 44), (⟨"WayBoxesModel", "leadsActs", "(I)I"⟩, 44), (⟨"WayBoxesModel", "plainLeads", "(I)I"⟩, 44)]
theorem lw_r4 : ∀ q ∈ lw_privs_4, lw_okq q := List.forall_mem_cons.mpr ⟨lw_p48, List.forall_mem_cons.mpr ⟨lw_p49, List.forall_mem_cons.mpr ⟨lw_p50, List.forall_mem_cons.mpr ⟨lw_p51, List.forall_mem_cons.mpr ⟨lw_p52, List.forall_mem_cons.mpr ⟨lw_p53, List.forall_mem_cons.mpr ⟨lw_p54, List.forall_mem_cons.mpr ⟨lw_p55, List.forall_mem_cons.mpr ⟨lw_p56, List.forall_mem_cons.mpr ⟨lw_p57, List.forall_mem_cons.mpr ⟨lw_p58, List.forall_mem_cons.mpr ⟨lw_p59, List.forall_mem_cons.mpr ⟨lw_p60, List.forall_mem_cons.mpr ⟨lw_p61, List.forall_mem_cons.mpr ⟨lw_p62, List.forall_mem_cons.mpr ⟨lw_p63, fun _ h => absurd h List.not_mem_nil⟩⟩⟩⟩⟩⟩⟩⟩⟩⟩⟩⟩⟩⟩⟩⟩
def lw_privs : List (MethodName × Nat) := lw_privs_1 ++ (lw_privs_2 ++ (lw_privs_3 ++ (lw_privs_4)))
def lw_tbl : List Cond := k2_sels lw_privs ++ tables_1
theorem lw_privs_ok : ∀ q ∈ lw_privs, lw_okq q := by
  show ∀ q ∈ lw_privs_1 ++ (lw_privs_2 ++ (lw_privs_3 ++ (lw_privs_4))), lw_okq q
  exact List.forall_mem_append.mpr ⟨lw_r1, List.forall_mem_append.mpr ⟨lw_r2, List.forall_mem_append.mpr ⟨lw_r3, lw_r4⟩⟩⟩
-- ===== end of PART A; then your names; then what follows =====
end
section
def RX0 : String := "WayBoxes$Box"
def TX0 : u_T := fun k => match k with
  | 0 => ("WayBoxes$Box", "number", "I", false)
  | 1 => ("WayBoxes$Box", "kind", "I", false)
  | 2 => ("WayBoxes$Box", "text", "I", false)
  | 3 => ("WayBoxes$Box", "latest", "I", false)
  | 4 => ("WayBoxes$Box", "copies", "I", false)
  | 5 => ("WayBoxes$Box", "led", "[I", true)
  | 6 => ("WayBoxes$Box", "memory", "LWayBoxes$Memory;", true)
  | _ => ("WayBoxes$Box", "copied", "LWayBoxes$Memory;", true)
def tyX0 : Nat → FieldType := fun k => match k with
  | 0 => .int
  | 1 => .int
  | 2 => .int
  | 3 => .int
  | 4 => .int
  | 5 => .array .int
  | 6 => .object "WayBoxes$Memory"
  | _ => .object "WayBoxes$Memory"
theorem nmX0 : ∀ a, a < 8 → ∀ b, b < 8 → a ≠ b → (TX0 a).2.1 ≠ (TX0 b).2.1 := by decide +kernel
theorem tyX0_ok : ∀ k, k < 8 → parseFieldDescriptor (TX0 k).2.2.1 = some (tyX0 k) := by decide +kernel
abbrev cX0_init : ByteArray := prog_2_method_1_code
def yX0_init : MethodName := ⟨RX0, "<init>", "()V"⟩
abbrev cX0_begin : ByteArray := prog_2_method_2_code
def yX0_begin : MethodName := ⟨RX0, "begin", "(III)V"⟩
abbrev cX0_become : ByteArray := prog_2_method_3_code
def yX0_become : MethodName := ⟨RX0, "become", "(LWayBoxes$Box;)V"⟩
abbrev cX0_steps : ByteArray := prog_2_method_4_code
def yX0_steps : MethodName := ⟨RX0, "steps", "(LWayBoxes$Packet;LWayBoxes$Text;)I"⟩
abbrev cX0_ledAway : ByteArray := prog_2_method_5_code
def yX0_ledAway : MethodName := ⟨RX0, "ledAway", "()I"⟩
abbrev cX0_leadsTo : ByteArray := prog_2_method_6_code
def yX0_leadsTo : MethodName := ⟨RX0, "leadsTo", "(I)Z"⟩
def RX1 : String := "WayBoxes$Memory"
def TX1 : u_T := fun k => match k with
  | _ => ("WayBoxes$Memory", "cells", "[I", true)
def tyX1 : Nat → FieldType := fun k => match k with
  | _ => .array .int
theorem nmX1 : ∀ a, a < 1 → ∀ b, b < 1 → a ≠ b → (TX1 a).2.1 ≠ (TX1 b).2.1 := by decide +kernel
theorem tyX1_ok : ∀ k, k < 1 → parseFieldDescriptor (TX1 k).2.2.1 = some (tyX1 k) := by decide +kernel
abbrev cX1_init : ByteArray := prog_3_method_1_code
def yX1_init : MethodName := ⟨RX1, "<init>", "()V"⟩
abbrev cX1_clear : ByteArray := prog_3_method_2_code
def yX1_clear : MethodName := ⟨RX1, "clear", "()V"⟩
abbrev cX1_become : ByteArray := prog_3_method_3_code
def yX1_become : MethodName := ⟨RX1, "become", "(LWayBoxes$Memory;)V"⟩
abbrev cX1_at : ByteArray := prog_3_method_4_code
def yX1_at : MethodName := ⟨RX1, "at", "(I)I"⟩
abbrev cX1_put : ByteArray := prog_3_method_5_code
def yX1_put : MethodName := ⟨RX1, "put", "(II)V"⟩
abbrev cX1_forgetTalk : ByteArray := prog_3_method_6_code
def yX1_forgetTalk : MethodName := ⟨RX1, "forgetTalk", "(I)V"⟩
abbrev cX1_takeTalk : ByteArray := prog_3_method_7_code
def yX1_takeTalk : MethodName := ⟨RX1, "takeTalk", "(LWayBoxes$Memory;I)V"⟩
abbrev cX1_hasTalkOf : ByteArray := prog_3_method_8_code
def yX1_hasTalkOf : MethodName := ⟨RX1, "hasTalkOf", "(LWayBoxes$Memory;I)Z"⟩
abbrev cX1_isSumOf : ByteArray := prog_3_method_9_code
def yX1_isSumOf : MethodName := ⟨RX1, "isSumOf", "(LWayBoxes$Memory;LWayBoxes$Memory;)Z"⟩
def RX2 : String := "WayBoxes$Packet"
def TX2 : u_T := fun k => match k with
  | 0 => ("WayBoxes$Packet", "talk", "I", true)
  | 1 => ("WayBoxes$Packet", "house", "I", true)
  | 2 => ("WayBoxes$Packet", "kind", "I", true)
  | _ => ("WayBoxes$Packet", "n", "I", true)
def tyX2 : Nat → FieldType := fun k => match k with
  | 0 => .int
  | 1 => .int
  | 2 => .int
  | _ => .int
theorem nmX2 : ∀ a, a < 4 → ∀ b, b < 4 → a ≠ b → (TX2 a).2.1 ≠ (TX2 b).2.1 := by decide +kernel
theorem tyX2_ok : ∀ k, k < 4 → parseFieldDescriptor (TX2 k).2.2.1 = some (tyX2 k) := by decide +kernel
abbrev cX2_init : ByteArray := prog_4_method_1_code
def yX2_init : MethodName := ⟨RX2, "<init>", "(IIII)V"⟩
def RX3 : String := "WayBoxes$Reader"
def TX3 : u_T := fun k => match k with
  | 0 => ("WayBoxes$Reader", "tape", "[I", false)
  | 1 => ("WayBoxes$Reader", "size", "I", false)
  | 2 => ("WayBoxes$Reader", "at", "I", false)
  | _ => ("WayBoxes$Reader", "text", "LWayBoxes$Text;", false)
def tyX3 : Nat → FieldType := fun k => match k with
  | 0 => .array .int
  | 1 => .int
  | 2 => .int
  | _ => .object "WayBoxes$Text"
theorem nmX3 : ∀ a, a < 4 → ∀ b, b < 4 → a ≠ b → (TX3 a).2.1 ≠ (TX3 b).2.1 := by decide +kernel
theorem tyX3_ok : ∀ k, k < 4 → parseFieldDescriptor (TX3 k).2.2.1 = some (tyX3 k) := by decide +kernel
abbrev cX3_init : ByteArray := prog_5_method_1_code
def yX3_init : MethodName := ⟨RX3, "<init>", "()V"⟩
abbrev cX3_reads : ByteArray := prog_5_method_2_code
def yX3_reads : MethodName := ⟨RX3, "reads", "([II)LWayBoxes$Text;"⟩
abbrev cX3_handsOver : ByteArray := prog_5_method_3_code
def yX3_handsOver : MethodName := ⟨RX3, "handsOver", "()LWayBoxes$Text;"⟩
abbrev cX3_readsKind : ByteArray := prog_5_method_4_code
def yX3_readsKind : MethodName := ⟨RX3, "readsKind", "(I)Z"⟩
abbrev cX3_readsE : ByteArray := prog_5_method_5_code
def yX3_readsE : MethodName := ⟨RX3, "readsE", "(I)Z"⟩
abbrev cX3_readsT : ByteArray := prog_5_method_6_code
def yX3_readsT : MethodName := ⟨RX3, "readsT", "(I)Z"⟩
abbrev cX3_readsF : ByteArray := prog_5_method_7_code
def yX3_readsF : MethodName := ⟨RX3, "readsF", "(I)Z"⟩
abbrev cX3_readsTest : ByteArray := prog_5_method_8_code
def yX3_readsTest : MethodName := ⟨RX3, "readsTest", "()Z"⟩
abbrev cX3_readsActs : ByteArray := prog_5_method_9_code
def yX3_readsActs : MethodName := ⟨RX3, "readsActs", "(I)Z"⟩
abbrev cX3_readsAct : ByteArray := prog_5_method_10_code
def yX3_readsAct : MethodName := ⟨RX3, "readsAct", "()Z"⟩
abbrev cX3_readsSum : ByteArray := prog_5_method_11_code
def yX3_readsSum : MethodName := ⟨RX3, "readsSum", "(I)Z"⟩
abbrev cX3_term : ByteArray := prog_5_method_12_code
def yX3_term : MethodName := ⟨RX3, "term", "()I"⟩
abbrev cX3_takesDigit : ByteArray := prog_5_method_13_code
def yX3_takesDigit : MethodName := ⟨RX3, "takesDigit", "(I)I"⟩
abbrev cX3_next : ByteArray := prog_5_method_14_code
def yX3_next : MethodName := ⟨RX3, "next", "()I"⟩
abbrev cX3_takes : ByteArray := prog_5_method_15_code
def yX3_takes : MethodName := ⟨RX3, "takes", "(I)Z"⟩
def RX4 : String := "WayBoxes$Search"
def TX4 : u_T := fun k => match k with
  | 0 => ("WayBoxes$Search", "memories", "[LWayBoxes$Memory;", true)
  | 1 => ("WayBoxes$Search", "watches", "[LWayBoxes$Watch;", true)
  | 2 => ("WayBoxes$Search", "texts", "[LWayBoxes$Text;", true)
  | 3 => ("WayBoxes$Search", "boxes", "[I", true)
  | 4 => ("WayBoxes$Search", "textCount", "I", false)
  | 5 => ("WayBoxes$Search", "letters", "[LWayBoxes$Packet;", false)
  | 6 => ("WayBoxes$Search", "letterCount", "I", false)
  | 7 => ("WayBoxes$Search", "form", "I", false)
  | 8 => ("WayBoxes$Search", "n", "I", false)
  | _ => ("WayBoxes$Search", "row", "[I", true)
def tyX4 : Nat → FieldType := fun k => match k with
  | 0 => .array (.object "WayBoxes$Memory")
  | 1 => .array (.object "WayBoxes$Watch")
  | 2 => .array (.object "WayBoxes$Text")
  | 3 => .array .int
  | 4 => .int
  | 5 => .array (.object "WayBoxes$Packet")
  | 6 => .int
  | 7 => .int
  | 8 => .int
  | _ => .array .int
theorem nmX4 : ∀ a, a < 10 → ∀ b, b < 10 → a ≠ b → (TX4 a).2.1 ≠ (TX4 b).2.1 := by decide +kernel
theorem tyX4_ok : ∀ k, k < 10 → parseFieldDescriptor (TX4 k).2.2.1 = some (tyX4 k) := by decide +kernel
abbrev cX4_init : ByteArray := prog_6_method_1_code
def yX4_init : MethodName := ⟨RX4, "<init>", "()V"⟩
abbrev cX4_begin : ByteArray := prog_6_method_2_code
def yX4_begin : MethodName := ⟨RX4, "begin", "([LWayBoxes$Packet;III)V"⟩
abbrev cX4_add : ByteArray := prog_6_method_3_code
def yX4_add : MethodName := ⟨RX4, "add", "(LWayBoxes$Text;I)V"⟩
abbrev cX4_shortest : ByteArray := prog_6_method_4_code
def yX4_shortest : MethodName := ⟨RX4, "shortest", "(I)I"⟩
abbrev cX4_finds : ByteArray := prog_6_method_5_code
def yX4_finds : MethodName := ⟨RX4, "finds", "(LWayBoxes$Search;II)Z"⟩
abbrev cX4_breaks : ByteArray := prog_6_method_6_code
def yX4_breaks : MethodName := ⟨RX4, "breaks", "(ILWayBoxes$Packet;)Z"⟩
abbrev cX4_partsWays : ByteArray := prog_6_method_7_code
def yX4_partsWays : MethodName := ⟨RX4, "partsWays", "(ILWayBoxes$Packet;)Z"⟩
abbrev cX4_carried : ByteArray := prog_6_method_8_code
def yX4_carried : MethodName := ⟨RX4, "carried", "(II)LWayBoxes$Memory;"⟩
abbrev cX4_turnsToNextOrder : ByteArray := prog_6_method_9_code
def yX4_turnsToNextOrder : MethodName := ⟨RX4, "turnsToNextOrder", "()Z"⟩
abbrev cX4_swap : ByteArray := prog_6_method_10_code
def yX4_swap : MethodName := ⟨RX4, "swap", "(II)V"⟩
def RX5 : String := "WayBoxes$State"
def TX5 : u_T := fun k => match k with
  | 0 => ("WayBoxes$State", "tape", "[I", true)
  | 1 => ("WayBoxes$State", "fed", "I", false)
  | 2 => ("WayBoxes$State", "texts", "[LWayBoxes$Text;", true)
  | 3 => ("WayBoxes$State", "textCount", "I", false)
  | 4 => ("WayBoxes$State", "boxes", "[LWayBoxes$Box;", true)
  | 5 => ("WayBoxes$State", "boxCount", "I", false)
  | 6 => ("WayBoxes$State", "row", "[I", true)
  | 7 => ("WayBoxes$State", "rowSize", "I", false)
  | 8 => ("WayBoxes$State", "waiting", "[LWayBoxes$Packet;", true)
  | 9 => ("WayBoxes$State", "waitCount", "I", false)
  | 10 => ("WayBoxes$State", "held", "I", false)
  | 11 => ("WayBoxes$State", "alphabet", "[LWayBoxes$Packet;", true)
  | 12 => ("WayBoxes$State", "letterCount", "I", false)
  | _ => ("WayBoxes$State", "trace", "LWayBoxes$Trace;", true)
def tyX5 : Nat → FieldType := fun k => match k with
  | 0 => .array .int
  | 1 => .int
  | 2 => .array (.object "WayBoxes$Text")
  | 3 => .int
  | 4 => .array (.object "WayBoxes$Box")
  | 5 => .int
  | 6 => .array .int
  | 7 => .int
  | 8 => .array (.object "WayBoxes$Packet")
  | 9 => .int
  | 10 => .int
  | 11 => .array (.object "WayBoxes$Packet")
  | 12 => .int
  | _ => .object "WayBoxes$Trace"
theorem nmX5 : ∀ a, a < 14 → ∀ b, b < 14 → a ≠ b → (TX5 a).2.1 ≠ (TX5 b).2.1 := by decide +kernel
theorem tyX5_ok : ∀ k, k < 14 → parseFieldDescriptor (TX5 k).2.2.1 = some (tyX5 k) := by decide +kernel
abbrev cX5_init : ByteArray := prog_7_method_1_code
def yX5_init : MethodName := ⟨RX5, "<init>", "()V"⟩
abbrev cX5_become : ByteArray := prog_7_method_2_code
def yX5_become : MethodName := ⟨RX5, "become", "(LWayBoxes$State;)V"⟩
abbrev cX5_textAt : ByteArray := prog_7_method_3_code
def yX5_textAt : MethodName := ⟨RX5, "textAt", "(I)LWayBoxes$Text;"⟩
abbrev cX5_boxAt : ByteArray := prog_7_method_4_code
def yX5_boxAt : MethodName := ⟨RX5, "boxAt", "(I)LWayBoxes$Box;"⟩
abbrev cX5_isInRow : ByteArray := prog_7_method_5_code
def yX5_isInRow : MethodName := ⟨RX5, "isInRow", "(I)Z"⟩
abbrev cX5_isLedToByAnother : ByteArray := prog_7_method_6_code
def yX5_isLedToByAnother : MethodName := ⟨RX5, "isLedToByAnother", "(I)Z"⟩
abbrev cX5_passAlong : ByteArray := prog_7_method_7_code
def yX5_passAlong : MethodName := ⟨RX5, "passAlong", "(LWayBoxes$Packet;)I"⟩
def RX6 : String := "WayBoxes$Text"
def TX6 : u_T := fun k => match k with
  | 0 => ("WayBoxes$Text", "lineCount", "I", false)
  | 1 => ("WayBoxes$Text", "kinds", "[I", true)
  | 2 => ("WayBoxes$Text", "tests", "[I", true)
  | 3 => ("WayBoxes$Text", "acts", "[I", true)
  | 4 => ("WayBoxes$Text", "actCounts", "[I", true)
  | 5 => ("WayBoxes$Text", "signs", "[I", true)
  | 6 => ("WayBoxes$Text", "size", "I", false)
  | 7 => ("WayBoxes$Text", "stands", "I", false)
  | _ => ("WayBoxes$Text", "oneAt", "[I", true)
def tyX6 : Nat → FieldType := fun k => match k with
  | 0 => .int
  | 1 => .array .int
  | 2 => .array .int
  | 3 => .array .int
  | 4 => .array .int
  | 5 => .array .int
  | 6 => .int
  | 7 => .int
  | _ => .array .int
theorem nmX6 : ∀ a, a < 9 → ∀ b, b < 9 → a ≠ b → (TX6 a).2.1 ≠ (TX6 b).2.1 := by decide +kernel
theorem tyX6_ok : ∀ k, k < 9 → parseFieldDescriptor (TX6 k).2.2.1 = some (tyX6 k) := by decide +kernel
abbrev cX6_init : ByteArray := prog_8_method_1_code
def yX6_init : MethodName := ⟨RX6, "<init>", "()V"⟩
abbrev cX6_clear : ByteArray := prog_8_method_2_code
def yX6_clear : MethodName := ⟨RX6, "clear", "()V"⟩
abbrev cX6_add : ByteArray := prog_8_method_3_code
def yX6_add : MethodName := ⟨RX6, "add", "(I)V"⟩
abbrev cX6_countTerms : ByteArray := prog_8_method_4_code
def yX6_countTerms : MethodName := ⟨RX6, "countTerms", "(II)V"⟩
abbrev cX6_signAt : ByteArray := prog_8_method_5_code
def yX6_signAt : MethodName := ⟨RX6, "signAt", "(I)I"⟩
abbrev cX6_note : ByteArray := prog_8_method_6_code
def yX6_note : MethodName := ⟨RX6, "note", "(IZ)V"⟩
abbrev cX6_lineFor : ByteArray := prog_8_method_7_code
def yX6_lineFor : MethodName := ⟨RX6, "lineFor", "(LWayBoxes$Packet;LWayBoxes$Memory;)I"⟩
abbrev cX6_holds : ByteArray := prog_8_method_8_code
def yX6_holds : MethodName := ⟨RX6, "holds", "(ILWayBoxes$Packet;LWayBoxes$Memory;)Z"⟩
abbrev cX6_does : ByteArray := prog_8_method_9_code
def yX6_does : MethodName := ⟨RX6, "does", "(ILWayBoxes$Packet;LWayBoxes$Memory;)I"⟩
abbrev cX6_sumOf : ByteArray := prog_8_method_10_code
def yX6_sumOf : MethodName := ⟨RX6, "sumOf", "(IILWayBoxes$Packet;LWayBoxes$Memory;)I"⟩
abbrev cX6_value : ByteArray := prog_8_method_11_code
def yX6_value : MethodName := ⟨RX6, "value", "(ILWayBoxes$Packet;LWayBoxes$Memory;)I"⟩
def RX7 : String := "WayBoxes$Trace"
def TX7 : u_T := fun k => match k with
  | 0 => ("WayBoxes$Trace", "kept", "[I", true)
  | 1 => ("WayBoxes$Trace", "ran", "I", false)
  | 2 => ("WayBoxes$Trace", "ownKind", "I", false)
  | 3 => ("WayBoxes$Trace", "number", "I", false)
  | _ => ("WayBoxes$Trace", "lineCount", "I", false)
def tyX7 : Nat → FieldType := fun k => match k with
  | 0 => .array .int
  | 1 => .int
  | 2 => .int
  | 3 => .int
  | _ => .int
theorem nmX7 : ∀ a, a < 5 → ∀ b, b < 5 → a ≠ b → (TX7 a).2.1 ≠ (TX7 b).2.1 := by decide +kernel
theorem tyX7_ok : ∀ k, k < 5 → parseFieldDescriptor (TX7 k).2.2.1 = some (tyX7 k) := by decide +kernel
abbrev cX7_init : ByteArray := prog_9_method_1_code
def yX7_init : MethodName := ⟨RX7, "<init>", "()V"⟩
abbrev cX7_become : ByteArray := prog_9_method_2_code
def yX7_become : MethodName := ⟨RX7, "become", "(LWayBoxes$Trace;)V"⟩
abbrev cX7_runs : ByteArray := prog_9_method_3_code
def yX7_runs : MethodName := ⟨RX7, "runs", "(LWayBoxes$Box;III)I"⟩
abbrev cX7_runsFrom : ByteArray := prog_9_method_4_code
def yX7_runsFrom : MethodName := ⟨RX7, "runsFrom", "(IIII)I"⟩
abbrev cX7_answerOf : ByteArray := prog_9_method_5_code
def yX7_answerOf : MethodName := ⟨RX7, "answerOf", "(IIII)I"⟩
def RX8 : String := "WayBoxes$Watch"
def TX8 : u_T := fun k => match k with
  | 0 => ("WayBoxes$Watch", "begun", "I", false)
  | 1 => ("WayBoxes$Watch", "open", "I", false)
  | 2 => ("WayBoxes$Watch", "broken", "I", false)
  | 3 => ("WayBoxes$Watch", "houses", "[I", true)
  | 4 => ("WayBoxes$Watch", "numbers", "[I", true)
  | _ => ("WayBoxes$Watch", "passed", "[I", true)
def tyX8 : Nat → FieldType := fun k => match k with
  | 0 => .int
  | 1 => .int
  | 2 => .int
  | 3 => .array .int
  | 4 => .array .int
  | _ => .array .int
theorem nmX8 : ∀ a, a < 6 → ∀ b, b < 6 → a ≠ b → (TX8 a).2.1 ≠ (TX8 b).2.1 := by decide +kernel
theorem tyX8_ok : ∀ k, k < 6 → parseFieldDescriptor (TX8 k).2.2.1 = some (tyX8 k) := by decide +kernel
abbrev cX8_init : ByteArray := prog_10_method_1_code
def yX8_init : MethodName := ⟨RX8, "<init>", "()V"⟩
abbrev cX8_become : ByteArray := prog_10_method_2_code
def yX8_become : MethodName := ⟨RX8, "become", "(LWayBoxes$Watch;)V"⟩
abbrev cX8_sees : ByteArray := prog_10_method_3_code
def yX8_sees : MethodName := ⟨RX8, "sees", "(LWayBoxes$Packet;III)Z"⟩
abbrev cX8_opensMany : ByteArray := prog_10_method_4_code
def yX8_opensMany : MethodName := ⟨RX8, "opensMany", "(II)Z"⟩
abbrev cX8_isTwice : ByteArray := prog_10_method_5_code
def yX8_isTwice : MethodName := ⟨RX8, "isTwice", "(I)Z"⟩
def RX9 : String := "WayBoxes"
def TX9 : u_T := fun k => match k with
  | 0 => ("WayBoxes", "now", "LWayBoxes$State;", true)
  | 1 => ("WayBoxes", "image", "LWayBoxes$State;", true)
  | 2 => ("WayBoxes", "imaged", "Z", false)
  | 3 => ("WayBoxes", "reader", "LWayBoxes$Reader;", true)
  | _ => ("WayBoxes", "search", "LWayBoxes$Search;", true)
def tyX9 : Nat → FieldType := fun k => match k with
  | 0 => .object "WayBoxes$State"
  | 1 => .object "WayBoxes$State"
  | 2 => .boolean
  | 3 => .object "WayBoxes$Reader"
  | _ => .object "WayBoxes$Search"
theorem nmX9 : ∀ a, a < 5 → ∀ b, b < 5 → a ≠ b → (TX9 a).2.1 ≠ (TX9 b).2.1 := by decide +kernel
theorem tyX9_ok : ∀ k, k < 5 → parseFieldDescriptor (TX9 k).2.2.1 = some (tyX9 k) := by decide +kernel
abbrev cX9_init : ByteArray := prog_1_method_1_code
def yX9_init : MethodName := ⟨RX9, "<init>", "()V"⟩
abbrev cX9_feed : ByteArray := prog_1_method_2_code
def yX9_feed : MethodName := ⟨RX9, "feed", "(JI)I"⟩
abbrev cX9_text : ByteArray := prog_1_method_3_code
def yX9_text : MethodName := ⟨RX9, "text", "()I"⟩
abbrev cX9_lines : ByteArray := prog_1_method_4_code
def yX9_lines : MethodName := ⟨RX9, "lines", "(II)I"⟩
abbrev cX9_part : ByteArray := prog_1_method_5_code
def yX9_part : MethodName := ⟨RX9, "part", "(IIII)I"⟩
abbrev cX9_box : ByteArray := prog_1_method_6_code
def yX9_box : MethodName := ⟨RX9, "box", "(II)I"⟩
abbrev cX9_work : ByteArray := prog_1_method_7_code
def yX9_work : MethodName := ⟨RX9, "work", "(IIIII)I"⟩
abbrev cX9_cell : ByteArray := prog_1_method_8_code
def yX9_cell : MethodName := ⟨RX9, "cell", "(IIII)I"⟩
abbrev cX9_latest : ByteArray := prog_1_method_9_code
def yX9_latest : MethodName := ⟨RX9, "latest", "(I)I"⟩
abbrev cX9_row : ByteArray := prog_1_method_10_code
def yX9_row : MethodName := ⟨RX9, "row", "(I)I"⟩
abbrev cX9_send : ByteArray := prog_1_method_11_code
def yX9_send : MethodName := ⟨RX9, "send", "(IIII)I"⟩
abbrev cX9_lead : ByteArray := prog_1_method_12_code
def yX9_lead : MethodName := ⟨RX9, "lead", "(III)I"⟩
abbrev cX9_led : ByteArray := prog_1_method_13_code
def yX9_led : MethodName := ⟨RX9, "led", "(II)I"⟩
abbrev cX9_hold : ByteArray := prog_1_method_14_code
def yX9_hold : MethodName := ⟨RX9, "hold", "(I)I"⟩
abbrev cX9_release : ByteArray := prog_1_method_15_code
def yX9_release : MethodName := ⟨RX9, "release", "()I"⟩
abbrev cX9_whole : ByteArray := prog_1_method_16_code
def yX9_whole : MethodName := ⟨RX9, "whole", "(III)I"⟩
abbrev cX9_copy : ByteArray := prog_1_method_17_code
def yX9_copy : MethodName := ⟨RX9, "copy", "(I)I"⟩
abbrev cX9_fall : ByteArray := prog_1_method_18_code
def yX9_fall : MethodName := ⟨RX9, "fall", "(I)I"⟩
abbrev cX9_letter : ByteArray := prog_1_method_19_code
def yX9_letter : MethodName := ⟨RX9, "letter", "(IIII)I"⟩
abbrev cX9_shown : ByteArray := prog_1_method_20_code
def yX9_shown : MethodName := ⟨RX9, "shown", "(IIIII)I"⟩
abbrev cX9_ways : ByteArray := prog_1_method_21_code
def yX9_ways : MethodName := ⟨RX9, "ways", "(IIII)I"⟩
abbrev cX9_orders : ByteArray := prog_1_method_22_code
def yX9_orders : MethodName := ⟨RX9, "orders", "(IIIII)I"⟩
abbrev cX9_act : ByteArray := prog_1_method_23_code
def yX9_act : MethodName := ⟨RX9, "act", "(III)I"⟩
abbrev cX9_trace : ByteArray := prog_1_method_24_code
def yX9_trace : MethodName := ⟨RX9, "trace", "(I)I"⟩
abbrev cX9_as : ByteArray := prog_1_method_25_code
def yX9_as : MethodName := ⟨RX9, "as", "(II)I"⟩
abbrev cX9_image : ByteArray := prog_1_method_26_code
def yX9_image : MethodName := ⟨RX9, "image", "()I"⟩
abbrev cX9_undo : ByteArray := prog_1_method_27_code
def yX9_undo : MethodName := ⟨RX9, "undo", "()I"⟩
abbrev cX9_count : ByteArray := prog_1_method_28_code
def yX9_count : MethodName := ⟨RX9, "count", "(I)I"⟩
abbrev cX9_refusalOf : ByteArray := prog_1_method_29_code
def yX9_refusalOf : MethodName := ⟨RX9, "refusalOf", "(IIII)I"⟩
abbrev cX9_isTalk : ByteArray := prog_1_method_30_code
def yX9_isTalk : MethodName := ⟨RX9, "isTalk", "(I)Z"⟩
abbrev cX9_areTalks : ByteArray := prog_1_method_31_code
def yX9_areTalks : MethodName := ⟨RX9, "areTalks", "(I)Z"⟩
abbrev cX9_isN : ByteArray := prog_1_method_32_code
def yX9_isN : MethodName := ⟨RX9, "isN", "(I)Z"⟩
abbrev cX9_isForm : ByteArray := prog_1_method_33_code
def yX9_isForm : MethodName := ⟨RX9, "isForm", "(I)Z"⟩
abbrev cX9_isDepth : ByteArray := prog_1_method_34_code
def yX9_isDepth : MethodName := ⟨RX9, "isDepth", "(I)Z"⟩
abbrev cX9_placeOf : ByteArray := prog_1_method_35_code
def yX9_placeOf : MethodName := ⟨RX9, "placeOf", "(III)I"⟩
def RX10 : String := "WayBoxesModel"
def TX10 : u_T := fun k => match k with
  | 0 => ("WayBoxesModel", "thrown", "I", false)
  | 1 => ("WayBoxesModel", "s", "[I", true)
  | 2 => ("WayBoxesModel", "image", "[I", true)
  | 3 => ("WayBoxesModel", "hasImage", "Z", false)
  | 4 => ("WayBoxesModel", "steps", "[I", true)
  | 5 => ("WayBoxesModel", "stepMany", "[I", true)
  | 6 => ("WayBoxesModel", "lineMany", "[I", true)
  | 7 => ("WayBoxesModel", "actMany", "[I", true)
  | 8 => ("WayBoxesModel", "parts", "[I", true)
  | 9 => ("WayBoxesModel", "act", "I", false)
  | 10 => ("WayBoxesModel", "spot", "I", false)
  | 11 => ("WayBoxesModel", "size", "I", false)
  | 12 => ("WayBoxesModel", "isWrong", "Z", false)
  | 13 => ("WayBoxesModel", "open", "I", false)
  | 14 => ("WayBoxesModel", "lineNow", "I", false)
  | 15 => ("WayBoxesModel", "memory", "[I", true)
  | 16 => ("WayBoxesModel", "truths", "[Z", true)
  | 17 => ("WayBoxesModel", "talk", "I", false)
  | 18 => ("WayBoxesModel", "house", "I", false)
  | 19 => ("WayBoxesModel", "kind", "I", false)
  | 20 => ("WayBoxesModel", "number", "I", false)
  | 21 => ("WayBoxesModel", "isTried", "Z", false)
  | 22 => ("WayBoxesModel", "base", "I", false)
  | 23 => ("WayBoxesModel", "lineDone", "I", false)
  | 24 => ("WayBoxesModel", "word", "[I", true)
  | 25 => ("WayBoxesModel", "best", "[I", true)
  | 26 => ("WayBoxesModel", "through", "[I", true)
  | 27 => ("WayBoxesModel", "throughMany", "I", false)
  | 28 => ("WayBoxesModel", "begun", "[Z", true)
  | 29 => ("WayBoxesModel", "isOpen", "[Z", true)
  | 30 => ("WayBoxesModel", "isBroken", "[Z", true)
  | 31 => ("WayBoxesModel", "homes", "[I", true)
  | 32 => ("WayBoxesModel", "numbers", "[I", true)
  | 33 => ("WayBoxesModel", "passed", "[I", true)
  | 34 => ("WayBoxesModel", "told", "[I", true)
  | 35 => ("WayBoxesModel", "order", "[I", true)
  | 36 => ("WayBoxesModel", "firstOrder", "[I", true)
  | 37 => ("WayBoxesModel", "tolds", "I", false)
  | 38 => ("WayBoxesModel", "keeping", "I", false)
  | 39 => ("WayBoxesModel", "bodies", "[I", true)
  | 40 => ("WayBoxesModel", "ran", "I", false)
  | 41 => ("WayBoxesModel", "actKind", "I", false)
  | 42 => ("WayBoxesModel", "who", "I", false)
  | _ => ("WayBoxesModel", "lineNumber", "I", false)
def tyX10 : Nat → FieldType := fun k => match k with
  | 0 => .int
  | 1 => .array .int
  | 2 => .array .int
  | 3 => .boolean
  | 4 => .array .int
  | 5 => .array .int
  | 6 => .array .int
  | 7 => .array .int
  | 8 => .array .int
  | 9 => .int
  | 10 => .int
  | 11 => .int
  | 12 => .boolean
  | 13 => .int
  | 14 => .int
  | 15 => .array .int
  | 16 => .array .boolean
  | 17 => .int
  | 18 => .int
  | 19 => .int
  | 20 => .int
  | 21 => .boolean
  | 22 => .int
  | 23 => .int
  | 24 => .array .int
  | 25 => .array .int
  | 26 => .array .int
  | 27 => .int
  | 28 => .array .boolean
  | 29 => .array .boolean
  | 30 => .array .boolean
  | 31 => .array .int
  | 32 => .array .int
  | 33 => .array .int
  | 34 => .array .int
  | 35 => .array .int
  | 36 => .array .int
  | 37 => .int
  | 38 => .int
  | 39 => .array .int
  | 40 => .int
  | 41 => .int
  | 42 => .int
  | _ => .int
theorem nmX10 : ∀ a, a < 44 → ∀ b, b < 44 → a ≠ b → (TX10 a).2.1 ≠ (TX10 b).2.1 := by decide +kernel
theorem tyX10_ok : ∀ k, k < 44 → parseFieldDescriptor (TX10 k).2.2.1 = some (tyX10 k) := by decide +kernel
abbrev cX10_init : ByteArray := prog_12_method_1_code
def yX10_init : MethodName := ⟨RX10, "<init>", "()V"⟩
abbrev cX10_in : ByteArray := prog_12_method_3_code
def yX10_in : MethodName := ⟨RX10, "in", "(III)Z"⟩
abbrev cX10_isText : ByteArray := prog_12_method_4_code
def yX10_isText : MethodName := ⟨RX10, "isText", "(I)Z"⟩
abbrev cX10_isBox : ByteArray := prog_12_method_5_code
def yX10_isBox : MethodName := ⟨RX10, "isBox", "(I)Z"⟩
abbrev cX10_isTalk : ByteArray := prog_12_method_6_code
def yX10_isTalk : MethodName := ⟨RX10, "isTalk", "(I)Z"⟩
abbrev cX10_isFour : ByteArray := prog_12_method_7_code
def yX10_isFour : MethodName := ⟨RX10, "isFour", "(I)Z"⟩
abbrev cX10_count1 : ByteArray := prog_12_method_8_code
def yX10_count1 : MethodName := ⟨RX10, "count1", "(I)I"⟩
abbrev cX10_feed : ByteArray := prog_12_method_9_code
def yX10_feed : MethodName := ⟨RX10, "feed", "(JI)I"⟩
abbrev cX10_here : ByteArray := prog_12_method_10_code
def yX10_here : MethodName := ⟨RX10, "here", "()I"⟩
abbrev cX10_must : ByteArray := prog_12_method_11_code
def yX10_must : MethodName := ⟨RX10, "must", "(I)V"⟩
abbrev cX10_emits : ByteArray := prog_12_method_12_code
def yX10_emits : MethodName := ⟨RX10, "emits", "(I)V"⟩
abbrev cX10_marks : ByteArray := prog_12_method_13_code
def yX10_marks : MethodName := ⟨RX10, "marks", "(IZ)V"⟩
abbrev cX10_cellHere : ByteArray := prog_12_method_14_code
def yX10_cellHere : MethodName := ⟨RX10, "cellHere", "()I"⟩
abbrev cX10_term : ByteArray := prog_12_method_15_code
def yX10_term : MethodName := ⟨RX10, "term", "()I"⟩
abbrev cX10_factor : ByteArray := prog_12_method_16_code
def yX10_factor : MethodName := ⟨RX10, "factor", "()V"⟩
abbrev cX10_every : ByteArray := prog_12_method_17_code
def yX10_every : MethodName := ⟨RX10, "every", "()V"⟩
abbrev cX10_some : ByteArray := prog_12_method_18_code
def yX10_some : MethodName := ⟨RX10, "some", "()V"⟩
abbrev cX10_sum : ByteArray := prog_12_method_19_code
def yX10_sum : MethodName := ⟨RX10, "sum", "(I)V"⟩
abbrev cX10_actHere : ByteArray := prog_12_method_20_code
def yX10_actHere : MethodName := ⟨RX10, "actHere", "()V"⟩
abbrev cX10_lineHere : ByteArray := prog_12_method_21_code
def yX10_lineHere : MethodName := ⟨RX10, "lineHere", "()V"⟩
abbrev cX10_text : ByteArray := prog_12_method_22_code
def yX10_text : MethodName := ⟨RX10, "text", "()I"⟩
abbrev cX10_lines : ByteArray := prog_12_method_23_code
def yX10_lines : MethodName := ⟨RX10, "lines", "(II)I"⟩
abbrev cX10_part : ByteArray := prog_12_method_24_code
def yX10_part : MethodName := ⟨RX10, "part", "(IIII)I"⟩
abbrev cX10_place : ByteArray := prog_12_method_25_code
def yX10_place : MethodName := ⟨RX10, "place", "(I)I"⟩
abbrev cX10_value : ByteArray := prog_12_method_26_code
def yX10_value : MethodName := ⟨RX10, "value", "(I)I"⟩
abbrev cX10_becomes : ByteArray := prog_12_method_27_code
def yX10_becomes : MethodName := ⟨RX10, "becomes", "(II)V"⟩
abbrev cX10_isSo : ByteArray := prog_12_method_28_code
def yX10_isSo : MethodName := ⟨RX10, "isSo", "(I)Z"⟩
abbrev cX10_acts : ByteArray := prog_12_method_29_code
def yX10_acts : MethodName := ⟨RX10, "acts", "(II)I"⟩
abbrev cX10_works : ByteArray := prog_12_method_30_code
def yX10_works : MethodName := ⟨RX10, "works", "(I)I"⟩
abbrev cX10_packet : ByteArray := prog_12_method_31_code
def yX10_packet : MethodName := ⟨RX10, "packet", "(IIII)V"⟩
abbrev cX10_worksBox : ByteArray := prog_12_method_32_code
def yX10_worksBox : MethodName := ⟨RX10, "worksBox", "(I)I"⟩
abbrev cX10_isPacket : ByteArray := prog_12_method_33_code
def yX10_isPacket : MethodName := ⟨RX10, "isPacket", "(III)Z"⟩
abbrev cX10_box : ByteArray := prog_12_method_34_code
def yX10_box : MethodName := ⟨RX10, "box", "(II)I"⟩
abbrev cX10_work : ByteArray := prog_12_method_35_code
def yX10_work : MethodName := ⟨RX10, "work", "(IIIII)I"⟩
abbrev cX10_cell : ByteArray := prog_12_method_36_code
def yX10_cell : MethodName := ⟨RX10, "cell", "(IIII)I"⟩
abbrev cX10_latest : ByteArray := prog_12_method_37_code
def yX10_latest : MethodName := ⟨RX10, "latest", "(I)I"⟩
abbrev cX10_leading : ByteArray := prog_12_method_38_code
def yX10_leading : MethodName := ⟨RX10, "leading", "(I)I"⟩
abbrev cX10_isLedTo : ByteArray := prog_12_method_39_code
def yX10_isLedTo : MethodName := ⟨RX10, "isLedTo", "(I)Z"⟩
abbrev cX10_row : ByteArray := prog_12_method_40_code
def yX10_row : MethodName := ⟨RX10, "row", "(I)I"⟩
abbrev cX10_sends : ByteArray := prog_12_method_41_code
def yX10_sends : MethodName := ⟨RX10, "sends", "()I"⟩
abbrev cX10_send : ByteArray := prog_12_method_42_code
def yX10_send : MethodName := ⟨RX10, "send", "(IIII)I"⟩
abbrev cX10_isInRow : ByteArray := prog_12_method_43_code
def yX10_isInRow : MethodName := ⟨RX10, "isInRow", "(I)Z"⟩
abbrev cX10_lead : ByteArray := prog_12_method_44_code
def yX10_lead : MethodName := ⟨RX10, "lead", "(III)I"⟩
abbrev cX10_led : ByteArray := prog_12_method_45_code
def yX10_led : MethodName := ⟨RX10, "led", "(II)I"⟩
abbrev cX10_hold : ByteArray := prog_12_method_46_code
def yX10_hold : MethodName := ⟨RX10, "hold", "(I)I"⟩
abbrev cX10_release : ByteArray := prog_12_method_47_code
def yX10_release : MethodName := ⟨RX10, "release", "()I"⟩
abbrev cX10_whole : ByteArray := prog_12_method_48_code
def yX10_whole : MethodName := ⟨RX10, "whole", "(III)I"⟩
abbrev cX10_copy : ByteArray := prog_12_method_49_code
def yX10_copy : MethodName := ⟨RX10, "copy", "(I)I"⟩
abbrev cX10_fall : ByteArray := prog_12_method_50_code
def yX10_fall : MethodName := ⟨RX10, "fall", "(I)I"⟩
abbrev cX10_letter : ByteArray := prog_12_method_51_code
def yX10_letter : MethodName := ⟨RX10, "letter", "(IIII)I"⟩
abbrev cX10_empties : ByteArray := prog_12_method_52_code
def yX10_empties : MethodName := ⟨RX10, "empties", "()V"⟩
abbrev cX10_tries : ByteArray := prog_12_method_53_code
def yX10_tries : MethodName := ⟨RX10, "tries", "(I)I"⟩
abbrev cX10_isKept : ByteArray := prog_12_method_54_code
def yX10_isKept : MethodName := ⟨RX10, "isKept", "(II)Z"⟩
abbrev cX10_keeps : ByteArray := prog_12_method_55_code
def yX10_keeps : MethodName := ⟨RX10, "keeps", "(III)Z"⟩
abbrev cX10_next : ByteArray := prog_12_method_56_code
def yX10_next : MethodName := ⟨RX10, "next", "(I)Z"⟩
abbrev cX10_breach : ByteArray := prog_12_method_57_code
def yX10_breach : MethodName := ⟨RX10, "breach", "(III)I"⟩
abbrev cX10_shown : ByteArray := prog_12_method_58_code
def yX10_shown : MethodName := ⟨RX10, "shown", "(IIIII)I"⟩
abbrev cX10_lastBy : ByteArray := prog_12_method_59_code
def yX10_lastBy : MethodName := ⟨RX10, "lastBy", "(II)I"⟩
abbrev cX10_ways : ByteArray := prog_12_method_60_code
def yX10_ways : MethodName := ⟨RX10, "ways", "(IIII)I"⟩
abbrev cX10_arranges : ByteArray := prog_12_method_61_code
def yX10_arranges : MethodName := ⟨RX10, "arranges", "(IIIII)V"⟩
abbrev cX10_orders : ByteArray := prog_12_method_62_code
def yX10_orders : MethodName := ⟨RX10, "orders", "(IIIII)I"⟩
abbrev cX10_runs : ByteArray := prog_12_method_63_code
def yX10_runs : MethodName := ⟨RX10, "runs", "(I)V"⟩
abbrev cX10_isUnder : ByteArray := prog_12_method_64_code
def yX10_isUnder : MethodName := ⟨RX10, "isUnder", "(II)Z"⟩
abbrev cX10_plainKeeps : ByteArray := prog_12_method_65_code
def yX10_plainKeeps : MethodName := ⟨RX10, "plainKeeps", "(I)I"⟩
abbrev cX10_keepsActs : ByteArray := prog_12_method_66_code
def yX10_keepsActs : MethodName := ⟨RX10, "keepsActs", "(I)I"⟩
abbrev cX10_plainWorks : ByteArray := prog_12_method_67_code
def yX10_plainWorks : MethodName := ⟨RX10, "plainWorks", "(I)I"⟩
abbrev cX10_worksActs : ByteArray := prog_12_method_68_code
def yX10_worksActs : MethodName := ⟨RX10, "worksActs", "(I)I"⟩
abbrev cX10_plainLeads : ByteArray := prog_12_method_69_code
def yX10_plainLeads : MethodName := ⟨RX10, "plainLeads", "(I)I"⟩
abbrev cX10_leadsActs : ByteArray := prog_12_method_70_code
def yX10_leadsActs : MethodName := ⟨RX10, "leadsActs", "(I)I"⟩
abbrev cX10_act : ByteArray := prog_12_method_71_code
def yX10_act : MethodName := ⟨RX10, "act", "(III)I"⟩
abbrev cX10_trace : ByteArray := prog_12_method_72_code
def yX10_trace : MethodName := ⟨RX10, "trace", "(I)I"⟩
abbrev cX10_as : ByteArray := prog_12_method_73_code
def yX10_as : MethodName := ⟨RX10, "as", "(II)I"⟩
abbrev cX10_image : ByteArray := prog_12_method_74_code
def yX10_image : MethodName := ⟨RX10, "image", "()I"⟩
abbrev cX10_undo : ByteArray := prog_12_method_75_code
def yX10_undo : MethodName := ⟨RX10, "undo", "()I"⟩
abbrev cX10_count : ByteArray := prog_12_method_76_code
def yX10_count : MethodName := ⟨RX10, "count", "(I)I"⟩
def RJ6 : String := "java/lang/Integer"
abbrev cJ6_bitCount_0f7a4 : ByteArray := prog_13_method_49_code
def yJ6_bitCount_0f7a4 : MethodName := ⟨RJ6, "bitCount", "(I)I"⟩
def RJ7 : String := "java/util/Arrays"
abbrev cJ7_fill_53178 : ByteArray := prog_15_method_103_code
def yJ7_fill_53178 : MethodName := ⟨RJ7, "fill", "([II)V"⟩
def RL : String := "WayBoxesLaw"
abbrev cL_law : ByteArray := code
def yL_law : MethodName := ⟨RL, "law", "([I)Z"⟩
abbrev vwCl : List vw_C := [(RX0, TX0, 8), (RX1, TX1, 1), (RX2, TX2, 4), (RX3, TX3, 4), (RX4, TX4, 10), (RX5, TX5, 14), (RX6, TX6, 9), (RX7, TX7, 5), (RX8, TX8, 6), (RX9, TX9, 5), (RX10, TX10, 44)]
end
section
/-! the methods by number: name, code, locals, answer, class, how many arguments -/
def m_yL : List MethodName := [yX0_init, yX0_begin, yX0_become, yX0_steps, yX0_ledAway, yX0_leadsTo, yX1_init, yX1_clear, yX1_become, yX1_at, yX1_put, yX1_forgetTalk, yX1_takeTalk, yX1_hasTalkOf, yX1_isSumOf, yX2_init, yX3_init, yX3_reads, yX3_handsOver, yX3_readsKind, yX3_readsE, yX3_readsT, yX3_readsF, yX3_readsTest, yX3_readsActs, yX3_readsAct, yX3_readsSum, yX3_term, yX3_takesDigit, yX3_next, yX3_takes, yX4_init, yX4_begin, yX4_add, yX4_shortest, yX4_finds, yX4_breaks, yX4_partsWays, yX4_carried, yX4_turnsToNextOrder, yX4_swap, yX5_init, yX5_become, yX5_textAt, yX5_boxAt, yX5_isInRow, yX5_isLedToByAnother, yX5_passAlong, yX6_init, yX6_clear, yX6_add, yX6_countTerms, yX6_signAt, yX6_note, yX6_lineFor, yX6_holds, yX6_does, yX6_sumOf, yX6_value, yX7_init, yX7_become, yX7_runs, yX7_runsFrom, yX7_answerOf, yX8_init, yX8_become, yX8_sees, yX8_opensMany, yX8_isTwice, yX9_init, yX9_feed, yX9_text, yX9_lines, yX9_part, yX9_box, yX9_work, yX9_cell, yX9_latest, yX9_row, yX9_send, yX9_lead, yX9_led, yX9_hold, yX9_release, yX9_whole, yX9_copy, yX9_fall, yX9_letter, yX9_shown, yX9_ways, yX9_orders, yX9_act, yX9_trace, yX9_as, yX9_image, yX9_undo, yX9_count, yX9_refusalOf, yX9_isTalk, yX9_areTalks, yX9_isN, yX9_isForm, yX9_isDepth, yX9_placeOf, yX10_init, yX10_in, yX10_isText, yX10_isBox, yX10_isTalk, yX10_isFour, yX10_count1, yX10_feed, yX10_here, yX10_must, yX10_emits, yX10_marks, yX10_cellHere, yX10_term, yX10_factor, yX10_every, yX10_some, yX10_sum, yX10_actHere, yX10_lineHere, yX10_text, yX10_lines, yX10_part, yX10_place, yX10_value, yX10_becomes, yX10_isSo, yX10_acts, yX10_works, yX10_packet, yX10_worksBox, yX10_isPacket, yX10_box, yX10_work, yX10_cell, yX10_latest, yX10_leading, yX10_isLedTo, yX10_row, yX10_sends, yX10_send, yX10_isInRow, yX10_lead, yX10_led, yX10_hold, yX10_release, yX10_whole, yX10_copy, yX10_fall, yX10_letter, yX10_empties, yX10_tries, yX10_isKept, yX10_keeps, yX10_next, yX10_breach, yX10_shown, yX10_lastBy, yX10_ways, yX10_arranges, yX10_orders, yX10_runs, yX10_isUnder, yX10_plainKeeps, yX10_keepsActs, yX10_plainWorks, yX10_worksActs, yX10_plainLeads, yX10_leadsActs, yX10_act, yX10_trace, yX10_as, yX10_image, yX10_undo, yX10_count, yJ6_bitCount_0f7a4, yJ7_fill_53178, yL_law]
def m_bL : List ByteArray := [cX0_init, cX0_begin, cX0_become, cX0_steps, cX0_ledAway, cX0_leadsTo, cX1_init, cX1_clear, cX1_become, cX1_at, cX1_put, cX1_forgetTalk, cX1_takeTalk, cX1_hasTalkOf, cX1_isSumOf, cX2_init, cX3_init, cX3_reads, cX3_handsOver, cX3_readsKind, cX3_readsE, cX3_readsT, cX3_readsF, cX3_readsTest, cX3_readsActs, cX3_readsAct, cX3_readsSum, cX3_term, cX3_takesDigit, cX3_next, cX3_takes, cX4_init, cX4_begin, cX4_add, cX4_shortest, cX4_finds, cX4_breaks, cX4_partsWays, cX4_carried, cX4_turnsToNextOrder, cX4_swap, cX5_init, cX5_become, cX5_textAt, cX5_boxAt, cX5_isInRow, cX5_isLedToByAnother, cX5_passAlong, cX6_init, cX6_clear, cX6_add, cX6_countTerms, cX6_signAt, cX6_note, cX6_lineFor, cX6_holds, cX6_does, cX6_sumOf, cX6_value, cX7_init, cX7_become, cX7_runs, cX7_runsFrom, cX7_answerOf, cX8_init, cX8_become, cX8_sees, cX8_opensMany, cX8_isTwice, cX9_init, cX9_feed, cX9_text, cX9_lines, cX9_part, cX9_box, cX9_work, cX9_cell, cX9_latest, cX9_row, cX9_send, cX9_lead, cX9_led, cX9_hold, cX9_release, cX9_whole, cX9_copy, cX9_fall, cX9_letter, cX9_shown, cX9_ways, cX9_orders, cX9_act, cX9_trace, cX9_as, cX9_image, cX9_undo, cX9_count, cX9_refusalOf, cX9_isTalk, cX9_areTalks, cX9_isN, cX9_isForm, cX9_isDepth, cX9_placeOf, cX10_init, cX10_in, cX10_isText, cX10_isBox, cX10_isTalk, cX10_isFour, cX10_count1, cX10_feed, cX10_here, cX10_must, cX10_emits, cX10_marks, cX10_cellHere, cX10_term, cX10_factor, cX10_every, cX10_some, cX10_sum, cX10_actHere, cX10_lineHere, cX10_text, cX10_lines, cX10_part, cX10_place, cX10_value, cX10_becomes, cX10_isSo, cX10_acts, cX10_works, cX10_packet, cX10_worksBox, cX10_isPacket, cX10_box, cX10_work, cX10_cell, cX10_latest, cX10_leading, cX10_isLedTo, cX10_row, cX10_sends, cX10_send, cX10_isInRow, cX10_lead, cX10_led, cX10_hold, cX10_release, cX10_whole, cX10_copy, cX10_fall, cX10_letter, cX10_empties, cX10_tries, cX10_isKept, cX10_keeps, cX10_next, cX10_breach, cX10_shown, cX10_lastBy, cX10_ways, cX10_arranges, cX10_orders, cX10_runs, cX10_isUnder, cX10_plainKeeps, cX10_keepsActs, cX10_plainWorks, cX10_worksActs, cX10_plainLeads, cX10_leadsActs, cX10_act, cX10_trace, cX10_as, cX10_image, cX10_undo, cX10_count, cJ6_bitCount_0f7a4, cJ7_fill_53178, cL_law]
def m_nlL : List Nat := [1, 4, 2, 3, 3, 3, 1, 1, 2, 2, 3, 3, 4, 4, 4, 5, 1, 4, 2, 3, 2, 2, 4, 4, 3, 3, 7, 4, 3, 1, 2, 2, 5, 3, 3, 6, 6, 8, 4, 5, 5, 2, 3, 2, 2, 3, 3, 6, 1, 1, 2, 3, 2, 4, 5, 10, 9, 8, 3, 1, 2, 5, 7, 5, 1, 2, 6, 5, 4, 1, 5, 3, 4, 7, 3, 8, 6, 3, 2, 8, 8, 4, 2, 3, 9, 3, 5, 6, 8, 8, 10, 6, 2, 6, 1, 1, 2, 4, 1, 1, 1, 1, 1, 3, 1, 3, 2, 2, 1, 1, 3, 5, 1, 2, 2, 4, 3, 4, 5, 1, 1, 6, 3, 5, 2, 3, 6, 2, 2, 3, 6, 7, 12, 5, 3, 3, 5, 6, 6, 2, 4, 5, 2, 3, 6, 4, 7, 3, 2, 5, 7, 3, 4, 6, 2, 5, 6, 6, 3, 6, 7, 5, 7, 7, 7, 2, 2, 2, 2, 2, 2, 2, 3, 4, 2, 3, 2, 2, 2, 1, 4, 4]
def m_rtL : List (Option FieldType) := [none, none, none, some .int, some .int, some .boolean, none, none, none, some .int, none, none, none, some .boolean, some .boolean, none, none, some (.object "WayBoxes$Text"), some (.object "WayBoxes$Text"), some .boolean, some .boolean, some .boolean, some .boolean, some .boolean, some .boolean, some .boolean, some .boolean, some .int, some .int, some .int, some .boolean, none, none, none, some .int, some .boolean, some .boolean, some .boolean, some (.object "WayBoxes$Memory"), some .boolean, none, none, none, some (.object "WayBoxes$Text"), some (.object "WayBoxes$Box"), some .boolean, some .boolean, some .int, none, none, none, none, some .int, none, some .int, some .boolean, some .int, some .int, some .int, none, none, some .int, some .int, some .int, none, none, some .boolean, some .boolean, some .boolean, none, some .int, some .int, some .int, some .int, some .int, some .int, some .int, some .int, some .int, some .int, some .int, some .int, some .int, some .int, some .int, some .int, some .int, some .int, some .int, some .int, some .int, some .int, some .int, some .int, some .int, some .int, some .int, some .int, some .boolean, some .boolean, some .boolean, some .boolean, some .boolean, some .int, none, some .boolean, some .boolean, some .boolean, some .boolean, some .boolean, some .int, some .int, some .int, none, none, none, some .int, some .int, none, none, none, none, none, none, some .int, some .int, some .int, some .int, some .int, none, some .boolean, some .int, some .int, none, some .int, some .boolean, some .int, some .int, some .int, some .int, some .int, some .boolean, some .int, some .int, some .int, some .boolean, some .int, some .int, some .int, some .int, some .int, some .int, some .int, some .int, none, some .int, some .boolean, some .boolean, some .boolean, some .int, some .int, some .int, some .int, none, some .int, none, some .boolean, some .int, some .int, some .int, some .int, some .int, some .int, some .int, some .int, some .int, some .int, some .int, some .int, some .int, none, some .boolean]
def m_ocL : List Nat := [0, 0, 0, 0, 0, 0, 1, 1, 1, 1, 1, 1, 1, 1, 1, 2, 3, 3, 3, 3, 3, 3, 3, 3, 3, 3, 3, 3, 3, 3, 3, 4, 4, 4, 4, 4, 4, 4, 4, 4, 4, 5, 5, 5, 5, 5, 5, 5, 6, 6, 6, 6, 6, 6, 6, 6, 6, 6, 6, 7, 7, 7, 7, 7, 8, 8, 8, 8, 8, 9, 9, 9, 9, 9, 9, 9, 9, 9, 9, 9, 9, 9, 9, 9, 9, 9, 9, 9, 9, 9, 9, 9, 9, 9, 9, 9, 9, 9, 9, 9, 9, 9, 9, 9, 10, 10, 10, 10, 10, 10, 10, 10, 10, 10, 10, 10, 10, 10, 10, 10, 10, 10, 10, 10, 10, 10, 10, 10, 10, 10, 10, 10, 10, 10, 10, 10, 10, 10, 10, 10, 10, 10, 10, 10, 10, 10, 10, 10, 10, 10, 10, 10, 10, 10, 10, 10, 10, 10, 10, 10, 10, 10, 10, 10, 10, 10, 10, 10, 10, 10, 10, 10, 10, 10, 10, 10, 10, 10, 10, 12, 13, 11]
def m_naL : List Nat := [0, 3, 1, 2, 0, 1, 0, 0, 1, 1, 2, 1, 2, 2, 2, 4, 0, 2, 0, 1, 1, 1, 1, 0, 1, 0, 1, 0, 1, 0, 1, 0, 4, 2, 1, 3, 2, 2, 2, 0, 2, 0, 1, 1, 1, 1, 1, 1, 0, 0, 1, 2, 1, 2, 2, 3, 3, 4, 3, 0, 1, 4, 4, 4, 0, 1, 4, 2, 1, 0, 2, 0, 2, 4, 2, 5, 4, 1, 1, 4, 3, 2, 1, 0, 3, 1, 1, 4, 5, 4, 5, 3, 1, 2, 0, 0, 1, 4, 1, 1, 1, 1, 1, 3, 0, 3, 1, 1, 1, 1, 1, 2, 0, 1, 1, 2, 0, 0, 0, 0, 0, 1, 0, 0, 0, 2, 4, 1, 1, 2, 1, 2, 1, 4, 1, 3, 2, 5, 4, 1, 1, 1, 1, 0, 4, 1, 3, 2, 1, 0, 3, 1, 1, 4, 0, 1, 2, 3, 1, 3, 5, 2, 4, 5, 5, 1, 2, 1, 1, 1, 1, 1, 1, 3, 1, 2, 0, 0, 1, 1, 2, 1]
def m_cnL : List String := [RX0, RX1, RX2, RX3, RX4, RX5, RX6, RX7, RX8, RX9, RX10, RL, RJ6, RJ7]
def m_y (i : Nat) : MethodName := m_yL.getD i yL_law
def m_b (i : Nat) : ByteArray := m_bL.getD i cL_law
def m_nl (i : Nat) : Nat := m_nlL.getD i 0
def m_rt (i : Nat) : Option FieldType := m_rtL.getD i none
def m_oc (i : Nat) : Nat := m_ocL.getD i 99
def m_na (i : Nat) : Nat := m_naL.getD i 0
def m_cn (i : Nat) : String := m_cnL.getD i ""
-- 0 X0_init
-- 1 X0_begin
-- 2 X0_become
-- 3 X0_steps
-- 4 X0_ledAway
-- 5 X0_leadsTo
-- 6 X1_init
-- 7 X1_clear
-- 8 X1_become
-- 9 X1_at
-- 10 X1_put
-- 11 X1_forgetTalk
-- 12 X1_takeTalk
-- 13 X1_hasTalkOf
-- 14 X1_isSumOf
-- 15 X2_init
-- 16 X3_init
-- 17 X3_reads
-- 18 X3_handsOver
-- 19 X3_readsKind
-- 20 X3_readsE
-- 21 X3_readsT
-- 22 X3_readsF
-- 23 X3_readsTest
-- 24 X3_readsActs
-- 25 X3_readsAct
-- 26 X3_readsSum
-- 27 X3_term
-- 28 X3_takesDigit
-- 29 X3_next
-- 30 X3_takes
-- 31 X4_init
-- 32 X4_begin
-- 33 X4_add
-- 34 X4_shortest
-- 35 X4_finds
-- 36 X4_breaks
-- 37 X4_partsWays
-- 38 X4_carried
-- 39 X4_turnsToNextOrder
-- 40 X4_swap
-- 41 X5_init
-- 42 X5_become
-- 43 X5_textAt
-- 44 X5_boxAt
-- 45 X5_isInRow
-- 46 X5_isLedToByAnother
-- 47 X5_passAlong
-- 48 X6_init
-- 49 X6_clear
-- 50 X6_add
-- 51 X6_countTerms
-- 52 X6_signAt
-- 53 X6_note
-- 54 X6_lineFor
-- 55 X6_holds
-- 56 X6_does
-- 57 X6_sumOf
-- 58 X6_value
-- 59 X7_init
-- 60 X7_become
-- 61 X7_runs
-- 62 X7_runsFrom
-- 63 X7_answerOf
-- 64 X8_init
-- 65 X8_become
-- 66 X8_sees
-- 67 X8_opensMany
-- 68 X8_isTwice
-- 69 X9_init
-- 70 X9_feed
-- 71 X9_text
-- 72 X9_lines
-- 73 X9_part
-- 74 X9_box
-- 75 X9_work
-- 76 X9_cell
-- 77 X9_latest
-- 78 X9_row
-- 79 X9_send
-- 80 X9_lead
-- 81 X9_led
-- 82 X9_hold
-- 83 X9_release
-- 84 X9_whole
-- 85 X9_copy
-- 86 X9_fall
-- 87 X9_letter
-- 88 X9_shown
-- 89 X9_ways
-- 90 X9_orders
-- 91 X9_act
-- 92 X9_trace
-- 93 X9_as
-- 94 X9_image
-- 95 X9_undo
-- 96 X9_count
-- 97 X9_refusalOf
-- 98 X9_isTalk
-- 99 X9_areTalks
-- 100 X9_isN
-- 101 X9_isForm
-- 102 X9_isDepth
-- 103 X9_placeOf
-- 104 X10_init
-- 105 X10_in
-- 106 X10_isText
-- 107 X10_isBox
-- 108 X10_isTalk
-- 109 X10_isFour
-- 110 X10_count1
-- 111 X10_feed
-- 112 X10_here
-- 113 X10_must
-- 114 X10_emits
-- 115 X10_marks
-- 116 X10_cellHere
-- 117 X10_term
-- 118 X10_factor
-- 119 X10_every
-- 120 X10_some
-- 121 X10_sum
-- 122 X10_actHere
-- 123 X10_lineHere
-- 124 X10_text
-- 125 X10_lines
-- 126 X10_part
-- 127 X10_place
-- 128 X10_value
-- 129 X10_becomes
-- 130 X10_isSo
-- 131 X10_acts
-- 132 X10_works
-- 133 X10_packet
-- 134 X10_worksBox
-- 135 X10_isPacket
-- 136 X10_box
-- 137 X10_work
-- 138 X10_cell
-- 139 X10_latest
-- 140 X10_leading
-- 141 X10_isLedTo
-- 142 X10_row
-- 143 X10_sends
-- 144 X10_send
-- 145 X10_isInRow
-- 146 X10_lead
-- 147 X10_led
-- 148 X10_hold
-- 149 X10_release
-- 150 X10_whole
-- 151 X10_copy
-- 152 X10_fall
-- 153 X10_letter
-- 154 X10_empties
-- 155 X10_tries
-- 156 X10_isKept
-- 157 X10_keeps
-- 158 X10_next
-- 159 X10_breach
-- 160 X10_shown
-- 161 X10_lastBy
-- 162 X10_ways
-- 163 X10_arranges
-- 164 X10_orders
-- 165 X10_runs
-- 166 X10_isUnder
-- 167 X10_plainKeeps
-- 168 X10_keepsActs
-- 169 X10_plainWorks
-- 170 X10_worksActs
-- 171 X10_plainLeads
-- 172 X10_leadsActs
-- 173 X10_act
-- 174 X10_trace
-- 175 X10_as
-- 176 X10_image
-- 177 X10_undo
-- 178 X10_count
-- 179 J6_bitCount_0f7a4
-- 180 J7_fill_53178
-- 181 L_law
end
section
/-! A SMALL MACHINE: the bytecode's instructions as a function over a plain heap (a list of cells: a number for the class, and the values); references are numbers counted from the law's entry on, those from 1000000 on are the script and the two constant rows. -/
abbrev m_H : Type := List (Nat × List Value)
abbrev m_L : Type := List (Nat × Value)
abbrev m_E : Type := Instr × Nat × Int × Nat
abbrev m_R : Type := Option Value × m_H
abbrev m_C : Type := Nat × m_L × List Value × m_H
def m_nth {α : Type} : List α → Nat → Option α
  | [], _ => none
  | a :: _, 0 => some a
  | _ :: r, n + 1 => m_nth r n
theorem m_nth_eq {α : Type} (l : List α) (n : Nat) : m_nth l n = l[n]? := by
  induction l generalizing n with
  | nil => simp [m_nth]
  | cons a r ih => cases n <;> simp [m_nth, ih]
def m_lg : m_L → Nat → Option Value
  | [], _ => none
  | (j, v) :: r, i => if j = i then some v else m_lg r i
theorem m_lg_mem {l : m_L} {i : Nat} {v : Value} (h : m_lg l i = some v) : (i, v) ∈ l := by
  induction l with
  | nil => simp [m_lg] at h
  | cons a r ih =>
    obtain ⟨j, w⟩ := a
    simp only [m_lg] at h
    split at h
    · rename_i e
      cases h
      subst e
      exact List.mem_cons_self
    · exact List.mem_cons_of_mem _ (ih h)
def m_st (lv : m_L) (i : Nat) (v : Value) : m_L := (i, v) :: lv.filter (fun q => !(q.1 == i) && !(q.1 + 1 == i && q.2.category == 2))
def m_ix (i : Int32) : Option Nat := if i < 0 then none else some i.toNatClampNeg
def m_ob (h : m_H) (k : Nat) : Option (Nat × List Value) := if k < 1000000 then m_nth h k else none
/-- what a field of a kind may hold: 0 int, 1 boolean, 2 a reference -/
def m_fit (ty : Nat) (v : Value) : Bool := match v with
  | .int x => ty == 0 || (ty == 1 && (x == 0 || x == 1))
  | .null => ty == 2
  | .ref _ => ty == 2
  | _ => false
/-- an array's elements -/
def m_el (X : Nat → List Int32) (h : m_H) (tag k : Nat) (i : Int32) : Option Value :=
  match m_ix i with
  | none => none
  | some j => if k < 1000000 then (match m_nth h k with
    | some (t, vs) => if t = tag then m_nth vs j else none
    | none => none) else if tag = 20 ∧ k - 1000000 < 3 ∧ X 3 = [] then (m_nth (X (k - 1000000)) j).map Value.int else none
/-- an array with an element changed -/
def m_se (h : m_H) (tag k : Nat) (i : Int32) (v : Value) : Option m_H :=
  match m_ix i with
  | none => none
  | some j => match m_ob h k with
    | some (t, vs) => if t = tag ∧ j < vs.length then some (h.set k (tag, vs.set j v)) else none
    | none => none
def m_ln (X : Nat → List Int32) (h : m_H) (k : Nat) : Option Int32 :=
  if k < 1000000 then (match m_nth h k with
    | some (t, vs) => if 20 ≤ t ∧ t ≤ 26 then some (Int32.ofNat vs.length) else none
    | none => none) else if k - 1000000 < 3 ∧ X 3 = [] then some (Int32.ofNat (X (k - 1000000)).length) else none
/-- the class of the elements of an array of references -/
def m_cmp (tag : Nat) : Nat := match tag with
  | 22 => 6
  | 23 => 0
  | 24 => 2
  | 25 => 1
  | 26 => 8
  | _ => 99
def m_asg (h : m_H) (tag : Nat) (v : Value) : Bool := match v with
  | .null => true
  | .ref q => (match m_ob h q with
    | some (t, _) => t == m_cmp tag
    | none => false)
  | _ => false
/-- System.arraycopy of rows of ints -/
def m_acp (h : m_H) (a : Nat) (sp : Int32) (b : Nat) (dp n : Int32) : Option m_H :=
  match m_ix sp, m_ix dp, m_ix n with
  | some i, some j, some w => (match m_ob h a, m_ob h b with
    | some (t, us), some (t', vs) => if t = 20 ∧ t' = 20 ∧ i + w ≤ us.length ∧ j + w ≤ vs.length then some (h.set b (20, vs.take j ++ ((us.drop i).take w ++ vs.drop (j + w)))) else none
    | _, _ => none)
  | _, _, _ => none
def m_add (h : m_H) (tag : Nat) (vs : List Value) : Option m_H := if h.length < 1000000 then some (h ++ [(tag, vs)]) else none
/-- the fields of a new object, by its class -/
def m_dfl : Nat → List Value
  | 0 => [.int 0, .int 0, .int 0, .int 0, .int 0, .null, .null, .null]
  | 1 => [.null]
  | 2 => [.int 0, .int 0, .int 0, .int 0]
  | 3 => [.null, .int 0, .int 0, .null]
  | 4 => [.null, .null, .null, .null, .int 0, .null, .int 0, .int 0, .int 0, .null]
  | 5 => [.null, .int 0, .null, .int 0, .null, .int 0, .null, .int 0, .null, .int 0, .int 0, .null, .int 0, .null]
  | 6 => [.int 0, .null, .null, .null, .null, .null, .int 0, .int 0, .null]
  | 7 => [.null, .int 0, .int 0, .int 0, .int 0]
  | 8 => [.int 0, .int 0, .int 0, .null, .null, .null]
  | 9 => [.null, .null, .int 0, .null, .null]
  | 10 => [.int 0, .null, .null, .int 0, .null, .null, .null, .null, .null, .int 0, .int 0, .int 0, .int 0, .int 0, .int 0, .null, .null, .int 0, .int 0, .int 0, .int 0, .int 0, .int 0, .int 0, .null, .null, .null, .int 0, .null, .null, .null, .null, .null, .null, .null, .null, .null, .int 0, .int 0, .null, .int 0, .int 0, .int 0, .int 0]
  | _ => []
def m_go (pc : Nat) (off : Int) : Option Nat := if 0 ≤ (pc : Int) + off then some ((pc : Int) + off).toNat else none
abbrev m_nx (pc : Nat) (lv : m_L) (st : List Value) (h : m_H) : Option (m_C ⊕ m_R) := some (.inl (pc, lv, st, h))
/-- one instruction: the next place, or the method's end; call: what a called method does -/
def m_stp (X : Nat → List Int32) (call : Nat → List Value → m_H → Option m_R) (en : m_E) (pc : Nat) (lv : m_L) (st : List Value) (h : m_H) : Option (m_C ⊕ m_R) :=
  match en with
  | (ins, len, a, b) =>
  match ins with
  | .iconst n => m_nx (pc + len) lv (.int (Int32.ofInt n) :: st) h
  | .bipush n => m_nx (pc + len) lv (.int (Int8.ofInt n).toInt32 :: st) h
  | .sipush n => m_nx (pc + len) lv (.int (Int16.ofInt n).toInt32 :: st) h
  | .ldc _ => m_nx (pc + len) lv (.int (Int32.ofInt a) :: st) h
  | .ldc_w _ => m_nx (pc + len) lv (.int (Int32.ofInt a) :: st) h
  | .ldc2_w _ => m_nx (pc + len) lv (.long (Int64.ofInt a) :: st) h
  | .aconst_null => m_nx (pc + len) lv (.null :: st) h
  | .iload_n k => (match m_lg lv k.val with
    | some (.int x) => m_nx (pc + len) lv (.int x :: st) h
    | _ => none)
  | .iload k => (match m_lg lv k with
    | some (.int x) => m_nx (pc + len) lv (.int x :: st) h
    | _ => none)
  | .lload_n k => (match m_lg lv k.val with
    | some (.long x) => m_nx (pc + len) lv (.long x :: st) h
    | _ => none)
  | .lload k => (match m_lg lv k with
    | some (.long x) => m_nx (pc + len) lv (.long x :: st) h
    | _ => none)
  | .aload_n k => (match m_lg lv k.val with
    | some (.ref x) => m_nx (pc + len) lv (.ref x :: st) h
    | some .null => m_nx (pc + len) lv (.null :: st) h
    | _ => none)
  | .aload k => (match m_lg lv k with
    | some (.ref x) => m_nx (pc + len) lv (.ref x :: st) h
    | some .null => m_nx (pc + len) lv (.null :: st) h
    | _ => none)
  | .istore_n k => (match st with
    | .int x :: r => m_nx (pc + len) (m_st lv k.val (.int x)) r h
    | _ => none)
  | .istore k => (match st with
    | .int x :: r => m_nx (pc + len) (m_st lv k (.int x)) r h
    | _ => none)
  | .astore_n k => (match st with
    | .ref x :: r => m_nx (pc + len) (m_st lv k.val (.ref x)) r h
    | .null :: r => m_nx (pc + len) (m_st lv k.val .null) r h
    | _ => none)
  | .astore k => (match st with
    | .ref x :: r => m_nx (pc + len) (m_st lv k (.ref x)) r h
    | .null :: r => m_nx (pc + len) (m_st lv k .null) r h
    | _ => none)
  | .iinc i n => (match m_lg lv i with
    | some (.int x) => m_nx (pc + len) (m_st lv i (.int (x + Int32.ofInt n))) st h
    | _ => none)
  | .iadd => (match st with
    | .int y :: .int x :: r => m_nx (pc + len) lv (.int (x + y) :: r) h
    | _ => none)
  | .isub => (match st with
    | .int y :: .int x :: r => m_nx (pc + len) lv (.int (x - y) :: r) h
    | _ => none)
  | .imul => (match st with
    | .int y :: .int x :: r => m_nx (pc + len) lv (.int (x * y) :: r) h
    | _ => none)
  | .iand => (match st with
    | .int y :: .int x :: r => m_nx (pc + len) lv (.int (x &&& y) :: r) h
    | _ => none)
  | .ior => (match st with
    | .int y :: .int x :: r => m_nx (pc + len) lv (.int (x ||| y) :: r) h
    | _ => none)
  | .ixor => (match st with
    | .int y :: .int x :: r => m_nx (pc + len) lv (.int (x ^^^ y) :: r) h
    | _ => none)
  | .idiv => (match st with
    | .int y :: .int x :: r => if y = 0 then none else m_nx (pc + len) lv (.int (x / y) :: r) h
    | _ => none)
  | .irem => (match st with
    | .int y :: .int x :: r => if y = 0 then none else m_nx (pc + len) lv (.int (x - x / y * y) :: r) h
    | _ => none)
  | .ishl => (match st with
    | .int y :: .int x :: r => m_nx (pc + len) lv (.int (x <<< (y &&& 31)) :: r) h
    | _ => none)
  | .ishr => (match st with
    | .int y :: .int x :: r => m_nx (pc + len) lv (.int (x >>> (y &&& 31)) :: r) h
    | _ => none)
  | .iushr => (match st with
    | .int y :: .int x :: r => m_nx (pc + len) lv (.int ((x.toUInt32 >>> (y.toUInt32 &&& Int32.toUInt32 31)).toInt32) :: r) h
    | _ => none)
  | .land => (match st with
    | .long y :: .long x :: r => m_nx (pc + len) lv (.long (x &&& y) :: r) h
    | _ => none)
  | .lor => (match st with
    | .long y :: .long x :: r => m_nx (pc + len) lv (.long (x ||| y) :: r) h
    | _ => none)
  | .lshl => (match st with
    | .int y :: .long x :: r => m_nx (pc + len) lv (.long (x <<< (y.toInt64 &&& 63)) :: r) h
    | _ => none)
  | .lshr => (match st with
    | .int y :: .long x :: r => m_nx (pc + len) lv (.long (x >>> (y.toInt64 &&& 63)) :: r) h
    | _ => none)
  | .lushr => (match st with
    | .int y :: .long x :: r => m_nx (pc + len) lv (.long ((x.toUInt64 >>> (y.toInt64.toUInt64 &&& Int64.toUInt64 63)).toInt64) :: r) h
    | _ => none)
  | .ineg => (match st with
    | .int x :: r => m_nx (pc + len) lv (.int (-x) :: r) h
    | _ => none)
  | .i2l => (match st with
    | .int x :: r => m_nx (pc + len) lv (.long (x.toInt64) :: r) h
    | _ => none)
  | .l2i => (match st with
    | .long x :: r => m_nx (pc + len) lv (.int (x.toInt32) :: r) h
    | _ => none)
  | .dup => (match st with
    | .int x :: r => m_nx (pc + len) lv (.int x :: .int x :: r) h
    | .ref x :: r => m_nx (pc + len) lv (.ref x :: .ref x :: r) h
    | _ => none)
  | .dup2 => (match st with
    | .int x :: .ref y :: r => m_nx (pc + len) lv (.int x :: .ref y :: .int x :: .ref y :: r) h
    | _ => none)
  | .pop => (match st with
    | .int _ :: r => m_nx (pc + len) lv r h
    | _ => none)
  | .ifCond .eq _ => (match st with
    | .int x :: r => if x = 0 then m_nx a.toNat lv r h else m_nx (pc + len) lv r h
    | _ => none)
  | .ifCond .ne _ => (match st with
    | .int x :: r => if x = 0 then m_nx (pc + len) lv r h else m_nx a.toNat lv r h
    | _ => none)
  | .ifCond .lt _ => (match st with
    | .int x :: r => if x < 0 then m_nx a.toNat lv r h else m_nx (pc + len) lv r h
    | _ => none)
  | .ifCond .ge _ => (match st with
    | .int x :: r => if 0 ≤ x then m_nx a.toNat lv r h else m_nx (pc + len) lv r h
    | _ => none)
  | .ifCond .gt _ => (match st with
    | .int x :: r => if 0 < x then m_nx a.toNat lv r h else m_nx (pc + len) lv r h
    | _ => none)
  | .ifCond .le _ => (match st with
    | .int x :: r => if x ≤ 0 then m_nx a.toNat lv r h else m_nx (pc + len) lv r h
    | _ => none)
  | .if_icmp .eq _ => (match st with
    | .int y :: .int x :: r => if x = y then m_nx a.toNat lv r h else m_nx (pc + len) lv r h
    | _ => none)
  | .if_icmp .ne _ => (match st with
    | .int y :: .int x :: r => if x = y then m_nx (pc + len) lv r h else m_nx a.toNat lv r h
    | _ => none)
  | .if_icmp .lt _ => (match st with
    | .int y :: .int x :: r => if x < y then m_nx a.toNat lv r h else m_nx (pc + len) lv r h
    | _ => none)
  | .if_icmp .ge _ => (match st with
    | .int y :: .int x :: r => if y ≤ x then m_nx a.toNat lv r h else m_nx (pc + len) lv r h
    | _ => none)
  | .if_icmp .gt _ => (match st with
    | .int y :: .int x :: r => if y < x then m_nx a.toNat lv r h else m_nx (pc + len) lv r h
    | _ => none)
  | .if_icmp .le _ => (match st with
    | .int y :: .int x :: r => if x ≤ y then m_nx a.toNat lv r h else m_nx (pc + len) lv r h
    | _ => none)
  | .ifnull _ => (match st with
    | .null :: r => m_nx a.toNat lv r h
    | .ref _ :: r => m_nx (pc + len) lv r h
    | _ => none)
  | .ifnonnull _ => (match st with
    | .null :: r => m_nx (pc + len) lv r h
    | .ref _ :: r => m_nx a.toNat lv r h
    | _ => none)
  | .goto _ => m_nx a.toNat lv st h
  | .tableswitch d lo hi offs => (match st with
    | .int x :: r => if x.toInt < lo ∨ hi < x.toInt then (match m_go pc d with
      | some t => m_nx t lv r h
      | none => none) else (match m_nth offs.toList (x.toInt - lo).toNat with
      | some off => (match m_go pc off with
        | some t => m_nx t lv r h
        | none => none)
      | none => none)
    | _ => none)
  | .lookupswitch d ps => (match st with
    | .int x :: r => (match m_go pc (Op.lookupswitch.offset ps.toList d x.toInt) with
      | some t => m_nx t lv r h
      | none => none)
    | _ => none)
  | .getfield _ => (match st with
    | .ref k :: r => (match m_ob h k with
      | some (t, vs) => if t = b then (match m_nth vs (a.toNat % 100) with
        | some (.int x) => m_nx (pc + len) lv (.int x :: r) h
        | some (.ref x) => m_nx (pc + len) lv (.ref x :: r) h
        | some .null => m_nx (pc + len) lv (.null :: r) h
        | _ => none) else none
      | none => none)
    | _ => none)
  | .putfield _ => (match st with
    | v :: .ref k :: r => (match m_ob h k with
      | some (t, vs) => if t = b ∧ a.toNat % 100 < vs.length ∧ m_fit (a.toNat / 100) v = true then m_nx (pc + len) lv r (h.set k (t, vs.set (a.toNat % 100) v)) else none
      | none => none)
    | _ => none)
  | .getstatic _ => m_nx (pc + len) lv (.ref (1000000 + b) :: st) h
  | .new _ => (match m_add h b (m_dfl b) with
    | some h' => m_nx (pc + len) lv (.ref h.length :: st) h'
    | none => none)
  | .newarray _ => (match st with
    | .int n :: r => (match m_ix n with
      | some w => if w ≤ 100000 then (match m_add h b (List.replicate w (.int 0)) with
        | some h' => m_nx (pc + len) lv (.ref h.length :: r) h'
        | none => none) else none
      | none => none)
    | _ => none)
  | .anewarray _ => (match st with
    | .int n :: r => (match m_ix n with
      | some w => if w ≤ 100000 then (match m_add h b (List.replicate w .null) with
        | some h' => m_nx (pc + len) lv (.ref h.length :: r) h'
        | none => none) else none
      | none => none)
    | _ => none)
  | .arraylength => (match st with
    | .ref k :: r => (match m_ln X h k with
      | some n => m_nx (pc + len) lv (.int n :: r) h
      | none => none)
    | _ => none)
  | .iaload => (match st with
    | .int i :: .ref k :: r => (match m_el X h 20 k i with
      | some (.int x) => m_nx (pc + len) lv (.int x :: r) h
      | _ => none)
    | _ => none)
  | .baload => (match st with
    | .int i :: .ref k :: r => (match m_el X h 21 k i with
      | some (.int x) => m_nx (pc + len) lv (.int x :: r) h
      | _ => none)
    | _ => none)
  | .aaload => (match st with
    | .int i :: .ref k :: r => (match m_ob h k, m_ix i with
      | some (t, vs), some j => if 22 ≤ t ∧ t ≤ 26 then (match m_nth vs j with
        | some (.ref x) => m_nx (pc + len) lv (.ref x :: r) h
        | some .null => m_nx (pc + len) lv (.null :: r) h
        | _ => none) else none
      | _, _ => none)
    | _ => none)
  | .iastore => (match st with
    | .int x :: .int i :: .ref k :: r => (match m_se h 20 k i (.int x) with
      | some h' => m_nx (pc + len) lv r h'
      | none => none)
    | _ => none)
  | .bastore => (match st with
    | .int x :: .int i :: .ref k :: r => if x = 0 ∨ x = 1 then (match m_se h 21 k i (.int x) with
      | some h' => m_nx (pc + len) lv r h'
      | none => none) else none
    | _ => none)
  | .aastore => (match st with
    | v :: .int i :: .ref k :: r => (match m_ob h k, m_ix i with
      | some (t, vs), some j => if 22 ≤ t ∧ t ≤ 26 ∧ j < vs.length ∧ m_asg h t v = true then m_nx (pc + len) lv r (h.set k (t, vs.set j v)) else none
      | _, _ => none)
    | _ => none)
  | .invokevirtual _ => (match st.drop b with
    | .ref k :: r => (match m_ob h k with
      | some (t, _) => if t = m_oc a.toNat ∧ r.length ≤ 4 ∧ b ≤ st.length then (match call a.toNat (.ref k :: (st.take b).reverse) h with
        | some (v, h') => m_nx (pc + len) lv (v.toList ++ r) h'
        | none => none) else none
      | none => none)
    | _ => none)
  | .invokestatic _ => if a.toNat = 9999 then (match st with
    | .int n :: .int dp :: .ref q :: .int sp :: .ref k :: r => (match m_acp h k sp q dp n with
      | some h' => if r.length ≤ 4 then m_nx (pc + len) lv r h' else none
      | none => none)
    | _ => none) else if (st.drop b).length ≤ 4 ∧ b ≤ st.length then (match call a.toNat (st.take b).reverse h with
      | some (v, h') => m_nx (pc + len) lv (v.toList ++ st.drop b) h'
      | none => none) else none
  | .invokespecial _ => if a.toNat = 9998 then (match st with
    | .ref _ :: r => if r.length ≤ 4 then m_nx (pc + len) lv r h else none
    | _ => none) else (match st.drop b with
    | .ref k :: r => if r.length ≤ 4 ∧ b ≤ st.length ∧ k < 1000000 then (match call a.toNat (.ref k :: (st.take b).reverse) h with
        | some (v, h') => m_nx (pc + len) lv (v.toList ++ r) h'
        | none => none) else none
    | _ => none)
  | .ireturn => (match st with
    | [.int x] => if b = 0 ∨ x = 0 ∨ x = 1 then some (.inr (some (.int x), h)) else none
    | _ => none)
  | .areturn => (match st with
    | [.ref x] => some (.inr (some (.ref x), h))
    | [.null] => some (.inr (some .null, h))
    | _ => none)
  | .return_ => (match st with
    | [] => some (.inr (none, h))
    | _ => none)
  | _ => none
def m_exec (X : Nat → List Int32) (call : Nat → List Value → m_H → Option m_R) (code : List (Option m_E)) : Nat → Nat → m_L → List Value → m_H → Option m_R
  | 0, _, _, _, _ => none
  | n + 1, pc, lv, st, h => match m_nth code pc with
    | some (some en) => (match m_stp X call en pc lv st h with
      | some (.inl (pc', lv', st', h')) => m_exec X call code n pc' lv' st' h'
      | some (.inr r) => some r
      | none => none)
    | _ => none
end
section
/-! THE TABLES OF THE SMALL MACHINE, written by program: the methods by number, each instruction with its numbers resolved -/
def tb_X0_init : List (Option m_E) := [some (.aload_n 0, 1, 0, 0), some (.invokespecial 3, 3, 9998, 0), none, none, some (.aload_n 0, 1, 0, 0), some (.bipush 16, 2, 0, 0), none, some (.newarray .int, 2, 0, 20), none, some (.putfield 9, 3, 205, 0), none, none, some (.aload_n 0, 1, 0, 0), some (.new 15, 3, 0, 1), none, none, some (.dup, 1, 0, 0), some (.invokespecial 17, 3, 6, 0), none, none, some (.putfield 18, 3, 206, 0), none, none, some (.aload_n 0, 1, 0, 0), some (.new 15, 3, 0, 1), none, none, some (.dup, 1, 0, 0), some (.invokespecial 17, 3, 6, 0), none, none, some (.putfield 22, 3, 207, 0), none, none, some (.return_, 1, 0, 0)]
def tb_X0_begin : List (Option m_E) := [some (.aload_n 0, 1, 0, 0), some (.iload_n 1, 1, 0, 0), some (.putfield 25, 3, 0, 0), none, none, some (.aload_n 0, 1, 0, 0), some (.iload_n 2, 1, 0, 0), some (.putfield 29, 3, 1, 0), none, none, some (.aload_n 0, 1, 0, 0), some (.iload_n 3, 1, 0, 0), some (.putfield 32, 3, 2, 0), none, none, some (.aload_n 0, 1, 0, 0), some (.bipush (-5), 2, 0, 0), none, some (.putfield 35, 3, 3, 0), none, none, some (.aload_n 0, 1, 0, 0), some (.iconst 0, 1, 0, 0), some (.putfield 38, 3, 4, 0), none, none, some (.aload_n 0, 1, 0, 0), some (.getfield 9, 3, 205, 0), none, none, some (.iload_n 1, 1, 0, 0), some (.invokestatic 41, 3, 180, 2), none, none, some (.aload_n 0, 1, 0, 0), some (.getfield 18, 3, 206, 0), none, none, some (.invokevirtual 47, 3, 7, 0), none, none, some (.aload_n 0, 1, 0, 0), some (.getfield 22, 3, 207, 0), none, none, some (.invokevirtual 47, 3, 7, 0), none, none, some (.return_, 1, 0, 0)]
def tb_X0_become : List (Option m_E) := [some (.aload_n 0, 1, 0, 0), some (.aload_n 1, 1, 0, 0), some (.getfield 25, 3, 0, 0), none, none, some (.putfield 25, 3, 0, 0), none, none, some (.aload_n 0, 1, 0, 0), some (.aload_n 1, 1, 0, 0), some (.getfield 29, 3, 1, 0), none, none, some (.putfield 29, 3, 1, 0), none, none, some (.aload_n 0, 1, 0, 0), some (.aload_n 1, 1, 0, 0), some (.getfield 32, 3, 2, 0), none, none, some (.putfield 32, 3, 2, 0), none, none, some (.aload_n 0, 1, 0, 0), some (.aload_n 1, 1, 0, 0), some (.getfield 35, 3, 3, 0), none, none, some (.putfield 35, 3, 3, 0), none, none, some (.aload_n 0, 1, 0, 0), some (.aload_n 1, 1, 0, 0), some (.getfield 38, 3, 4, 0), none, none, some (.putfield 38, 3, 4, 0), none, none, some (.aload_n 1, 1, 0, 0), some (.getfield 9, 3, 205, 0), none, none, some (.iconst 0, 1, 0, 0), some (.aload_n 0, 1, 0, 0), some (.getfield 9, 3, 205, 0), none, none, some (.iconst 0, 1, 0, 0), some (.bipush 16, 2, 0, 0), none, some (.invokestatic 50, 3, 9999, 0), none, none, some (.aload_n 0, 1, 0, 0), some (.getfield 18, 3, 206, 0), none, none, some (.aload_n 1, 1, 0, 0), some (.getfield 18, 3, 206, 0), none, none, some (.invokevirtual 56, 3, 8, 1), none, none, some (.aload_n 0, 1, 0, 0), some (.getfield 22, 3, 207, 0), none, none, some (.aload_n 1, 1, 0, 0), some (.getfield 22, 3, 207, 0), none, none, some (.invokevirtual 56, 3, 8, 1), none, none, some (.return_, 1, 0, 0)]
def tb_X0_steps : List (Option m_E) := [some (.aload_n 1, 1, 0, 0), some (.ifnull 7, 3, 8, 0), none, none, some (.aload_n 2, 1, 0, 0), some (.ifnonnull 5, 3, 10, 0), none, none, some (.iconst 1, 1, 0, 0), some (.ireturn, 1, 0, 0), some (.aload_n 0, 1, 0, 0), some (.aload_n 2, 1, 0, 0), some (.aload_n 1, 1, 0, 0), some (.aload_n 0, 1, 0, 0), some (.getfield 18, 3, 206, 0), none, none, some (.invokevirtual 60, 3, 54, 2), none, none, some (.putfield 35, 3, 3, 0), none, none, some (.aload_n 2, 1, 0, 0), some (.aload_n 0, 1, 0, 0), some (.getfield 35, 3, 3, 0), none, none, some (.aload_n 1, 1, 0, 0), some (.aload_n 0, 1, 0, 0), some (.getfield 18, 3, 206, 0), none, none, some (.invokevirtual 66, 3, 56, 3), none, none, some (.ireturn, 1, 0, 0)]
def tb_X0_ledAway : List (Option m_E) := [some (.iconst 0, 1, 0, 0), some (.istore_n 1, 1, 0, 0), some (.iconst 0, 1, 0, 0), some (.istore_n 2, 1, 0, 0), some (.iload_n 2, 1, 0, 0), some (.bipush 16, 2, 0, 0), none, some (.if_icmp .ge 25, 3, 32, 0), none, none, some (.aload_n 0, 1, 0, 0), some (.getfield 9, 3, 205, 0), none, none, some (.iload_n 2, 1, 0, 0), some (.iaload, 1, 0, 0), some (.aload_n 0, 1, 0, 0), some (.getfield 25, 3, 0, 0), none, none, some (.if_icmp .eq 6, 3, 26, 0), none, none, some (.iinc 1 1, 3, 0, 0), none, none, some (.iinc 2 1, 3, 0, 0), none, none, some (.goto (-25), 3, 4, 0), none, none, some (.iload_n 1, 1, 0, 0), some (.ireturn, 1, 0, 0)]
def tb_X0_leadsTo : List (Option m_E) := [some (.iconst 0, 1, 0, 0), some (.istore_n 2, 1, 0, 0), some (.iload_n 2, 1, 0, 0), some (.bipush 16, 2, 0, 0), none, some (.if_icmp .ge 21, 3, 26, 0), none, none, some (.aload_n 0, 1, 0, 0), some (.getfield 9, 3, 205, 0), none, none, some (.iload_n 2, 1, 0, 0), some (.iaload, 1, 0, 0), some (.iload_n 1, 1, 0, 0), some (.if_icmp .ne 5, 3, 20, 0), none, none, some (.iconst 1, 1, 0, 0), some (.ireturn, 1, 0, 1), some (.iinc 2 1, 3, 0, 0), none, none, some (.goto (-21), 3, 2, 0), none, none, some (.iconst 0, 1, 0, 0), some (.ireturn, 1, 0, 1)]
def tb_X1_init : List (Option m_E) := [some (.aload_n 0, 1, 0, 0), some (.invokespecial 3, 3, 9998, 0), none, none, some (.aload_n 0, 1, 0, 0), some (.bipush 84, 2, 0, 0), none, some (.newarray .int, 2, 0, 20), none, some (.putfield 9, 3, 200, 1), none, none, some (.return_, 1, 0, 0)]
def tb_X1_clear : List (Option m_E) := [some (.aload_n 0, 1, 0, 0), some (.getfield 9, 3, 200, 1), none, none, some (.iconst 0, 1, 0, 0), some (.invokestatic 15, 3, 180, 2), none, none, some (.return_, 1, 0, 0)]
def tb_X1_become : List (Option m_E) := [some (.aload_n 1, 1, 0, 0), some (.getfield 9, 3, 200, 1), none, none, some (.iconst 0, 1, 0, 0), some (.aload_n 0, 1, 0, 0), some (.getfield 9, 3, 200, 1), none, none, some (.iconst 0, 1, 0, 0), some (.bipush 84, 2, 0, 0), none, some (.invokestatic 21, 3, 9999, 0), none, none, some (.return_, 1, 0, 0)]
def tb_X1_at : List (Option m_E) := [some (.iload_n 1, 1, 0, 0), some (.ifCond .lt 18, 3, 19, 0), none, none, some (.iload_n 1, 1, 0, 0), some (.bipush 84, 2, 0, 0), none, some (.if_icmp .ge 12, 3, 19, 0), none, none, some (.aload_n 0, 1, 0, 0), some (.getfield 9, 3, 200, 1), none, none, some (.iload_n 1, 1, 0, 0), some (.iaload, 1, 0, 0), some (.goto 4, 3, 20, 0), none, none, some (.iconst 0, 1, 0, 0), some (.ireturn, 1, 0, 0)]
def tb_X1_put : List (Option m_E) := [some (.iload_n 1, 1, 0, 0), some (.ifCond .lt 16, 3, 17, 0), none, none, some (.iload_n 1, 1, 0, 0), some (.bipush 84, 2, 0, 0), none, some (.if_icmp .ge 10, 3, 17, 0), none, none, some (.aload_n 0, 1, 0, 0), some (.getfield 9, 3, 200, 1), none, none, some (.iload_n 1, 1, 0, 0), some (.iload_n 2, 1, 0, 0), some (.iastore, 1, 0, 0), some (.return_, 1, 0, 0)]
def tb_X1_forgetTalk : List (Option m_E) := [some (.iconst 0, 1, 0, 0), some (.istore_n 2, 1, 0, 0), some (.iload_n 2, 1, 0, 0), some (.iconst 4, 1, 0, 0), some (.if_icmp .ge 19, 3, 23, 0), none, none, some (.aload_n 0, 1, 0, 0), some (.iload_n 1, 1, 0, 0), some (.iconst 4, 1, 0, 0), some (.imul, 1, 0, 0), some (.iload_n 2, 1, 0, 0), some (.iadd, 1, 0, 0), some (.iconst 0, 1, 0, 0), some (.invokevirtual 27, 3, 10, 2), none, none, some (.iinc 2 1, 3, 0, 0), none, none, some (.goto (-18), 3, 2, 0), none, none, some (.return_, 1, 0, 0)]
def tb_X1_takeTalk : List (Option m_E) := [some (.iconst 0, 1, 0, 0), some (.istore_n 3, 1, 0, 0), some (.iload_n 3, 1, 0, 0), some (.iconst 4, 1, 0, 0), some (.if_icmp .ge 27, 3, 31, 0), none, none, some (.aload_n 0, 1, 0, 0), some (.iload_n 2, 1, 0, 0), some (.iconst 4, 1, 0, 0), some (.imul, 1, 0, 0), some (.iload_n 3, 1, 0, 0), some (.iadd, 1, 0, 0), some (.aload_n 1, 1, 0, 0), some (.iload_n 2, 1, 0, 0), some (.iconst 4, 1, 0, 0), some (.imul, 1, 0, 0), some (.iload_n 3, 1, 0, 0), some (.iadd, 1, 0, 0), some (.invokevirtual 31, 3, 9, 1), none, none, some (.invokevirtual 27, 3, 10, 2), none, none, some (.iinc 3 1, 3, 0, 0), none, none, some (.goto (-26), 3, 2, 0), none, none, some (.aload_n 1, 1, 0, 0), some (.iload_n 2, 1, 0, 0), some (.invokevirtual 35, 3, 11, 1), none, none, some (.return_, 1, 0, 0)]
def tb_X1_hasTalkOf : List (Option m_E) := [some (.iconst 0, 1, 0, 0), some (.istore_n 3, 1, 0, 0), some (.iload_n 3, 1, 0, 0), some (.iconst 4, 1, 0, 0), some (.if_icmp .ge 32, 3, 36, 0), none, none, some (.aload_n 0, 1, 0, 0), some (.iload_n 2, 1, 0, 0), some (.iconst 4, 1, 0, 0), some (.imul, 1, 0, 0), some (.iload_n 3, 1, 0, 0), some (.iadd, 1, 0, 0), some (.invokevirtual 31, 3, 9, 1), none, none, some (.aload_n 1, 1, 0, 0), some (.iload_n 2, 1, 0, 0), some (.iconst 4, 1, 0, 0), some (.imul, 1, 0, 0), some (.iload_n 3, 1, 0, 0), some (.iadd, 1, 0, 0), some (.invokevirtual 31, 3, 9, 1), none, none, some (.if_icmp .eq 5, 3, 30, 0), none, none, some (.iconst 0, 1, 0, 0), some (.ireturn, 1, 0, 1), some (.iinc 3 1, 3, 0, 0), none, none, some (.goto (-31), 3, 2, 0), none, none, some (.iconst 1, 1, 0, 0), some (.ireturn, 1, 0, 1)]
def tb_X1_isSumOf : List (Option m_E) := [some (.bipush 64, 2, 0, 0), none, some (.istore_n 3, 1, 0, 0), some (.iload_n 3, 1, 0, 0), some (.bipush 84, 2, 0, 0), none, some (.if_icmp .ge 33, 3, 39, 0), none, none, some (.aload_n 0, 1, 0, 0), some (.getfield 9, 3, 200, 1), none, none, some (.iload_n 3, 1, 0, 0), some (.iaload, 1, 0, 0), some (.aload_n 1, 1, 0, 0), some (.getfield 9, 3, 200, 1), none, none, some (.iload_n 3, 1, 0, 0), some (.iaload, 1, 0, 0), some (.aload_n 2, 1, 0, 0), some (.getfield 9, 3, 200, 1), none, none, some (.iload_n 3, 1, 0, 0), some (.iaload, 1, 0, 0), some (.iadd, 1, 0, 0), some (.if_icmp .eq 5, 3, 33, 0), none, none, some (.iconst 0, 1, 0, 0), some (.ireturn, 1, 0, 1), some (.iinc 3 1, 3, 0, 0), none, none, some (.goto (-33), 3, 3, 0), none, none, some (.iconst 1, 1, 0, 0), some (.ireturn, 1, 0, 1)]
def tb_X2_init : List (Option m_E) := [some (.aload_n 0, 1, 0, 0), some (.invokespecial 1, 3, 9998, 0), none, none, some (.aload_n 0, 1, 0, 0), some (.iload_n 1, 1, 0, 0), some (.putfield 7, 3, 0, 2), none, none, some (.aload_n 0, 1, 0, 0), some (.iload_n 2, 1, 0, 0), some (.putfield 13, 3, 1, 2), none, none, some (.aload_n 0, 1, 0, 0), some (.iload_n 3, 1, 0, 0), some (.putfield 16, 3, 2, 2), none, none, some (.aload_n 0, 1, 0, 0), some (.iload 4, 2, 0, 0), none, some (.putfield 19, 3, 3, 2), none, none, some (.return_, 1, 0, 0)]
def tb_X3_init : List (Option m_E) := [some (.aload_n 0, 1, 0, 0), some (.invokespecial 3, 3, 9998, 0), none, none, some (.return_, 1, 0, 0)]
def tb_X3_reads : List (Option m_E) := [some (.aload_n 0, 1, 0, 0), some (.aload_n 1, 1, 0, 0), some (.putfield 9, 3, 200, 3), none, none, some (.aload_n 0, 1, 0, 0), some (.iload_n 2, 1, 0, 0), some (.putfield 15, 3, 1, 3), none, none, some (.aload_n 0, 1, 0, 0), some (.iconst 0, 1, 0, 0), some (.putfield 19, 3, 2, 3), none, none, some (.aload_n 0, 1, 0, 0), some (.getfield 22, 3, 203, 3), none, none, some (.ifnonnull 14, 3, 33, 0), none, none, some (.aload_n 0, 1, 0, 0), some (.new 26, 3, 0, 6), none, none, some (.dup, 1, 0, 0), some (.invokespecial 28, 3, 48, 0), none, none, some (.putfield 22, 3, 203, 3), none, none, some (.aload_n 0, 1, 0, 0), some (.getfield 22, 3, 203, 3), none, none, some (.invokevirtual 29, 3, 49, 0), none, none, some (.iconst 0, 1, 0, 0), some (.istore_n 3, 1, 0, 0), some (.iload_n 3, 1, 0, 0), some (.bipush 8, 2, 0, 0), none, some (.if_icmp .ge 115, 3, 160, 0), none, none, some (.aload_n 0, 1, 0, 0), some (.iload_n 3, 1, 0, 0), some (.invokevirtual 32, 3, 19, 1), none, none, some (.ifCond .ne 5, 3, 58, 0), none, none, some (.aconst_null, 1, 0, 0), some (.areturn, 1, 0, 0), some (.aload_n 0, 1, 0, 0), some (.bipush 40, 2, 0, 0), none, some (.invokevirtual 36, 3, 30, 1), none, none, some (.ifCond .eq 22, 3, 86, 0), none, none, some (.aload_n 0, 1, 0, 0), some (.iconst 1, 1, 0, 0), some (.invokevirtual 39, 3, 20, 1), none, none, some (.ifCond .eq 12, 3, 84, 0), none, none, some (.aload_n 0, 1, 0, 0), some (.bipush 41, 2, 0, 0), none, some (.invokevirtual 36, 3, 30, 1), none, none, some (.ifCond .ne 5, 3, 86, 0), none, none, some (.aconst_null, 1, 0, 0), some (.areturn, 1, 0, 0), some (.aload_n 0, 1, 0, 0), some (.getfield 22, 3, 203, 3), none, none, some (.getfield 42, 3, 203, 6), none, none, some (.iload_n 3, 1, 0, 0), some (.aload_n 0, 1, 0, 0), some (.getfield 22, 3, 203, 3), none, none, some (.getfield 45, 3, 6, 6), none, none, some (.iastore, 1, 0, 0), some (.aload_n 0, 1, 0, 0), some (.bipush 58, 2, 0, 0), none, some (.invokevirtual 36, 3, 30, 1), none, none, some (.ifCond .eq 11, 3, 119, 0), none, none, some (.aload_n 0, 1, 0, 0), some (.iload_n 3, 1, 0, 0), some (.invokevirtual 46, 3, 24, 1), none, none, some (.ifCond .ne 5, 3, 121, 0), none, none, some (.aconst_null, 1, 0, 0), some (.areturn, 1, 0, 0), some (.aload_n 0, 1, 0, 0), some (.getfield 19, 3, 2, 3), none, none, some (.aload_n 0, 1, 0, 0), some (.getfield 15, 3, 1, 3), none, none, some (.if_icmp .ne 8, 3, 137, 0), none, none, some (.aload_n 0, 1, 0, 0), some (.invokevirtual 49, 3, 18, 0), none, none, some (.areturn, 1, 0, 0), some (.iload_n 3, 1, 0, 0), some (.bipush 7, 2, 0, 0), none, some (.if_icmp .eq 12, 3, 152, 0), none, none, some (.aload_n 0, 1, 0, 0), some (.bipush 59, 2, 0, 0), none, some (.invokevirtual 36, 3, 30, 1), none, none, some (.ifCond .ne 5, 3, 154, 0), none, none, some (.aconst_null, 1, 0, 0), some (.areturn, 1, 0, 0), some (.iinc 3 1, 3, 0, 0), none, none, some (.goto (-115), 3, 42, 0), none, none, some (.aconst_null, 1, 0, 0), some (.areturn, 1, 0, 0)]
def tb_X3_handsOver : List (Option m_E) := [some (.aload_n 0, 1, 0, 0), some (.getfield 22, 3, 203, 3), none, none, some (.astore_n 1, 1, 0, 0), some (.aload_n 0, 1, 0, 0), some (.aconst_null, 1, 0, 0), some (.putfield 22, 3, 203, 3), none, none, some (.aload_n 1, 1, 0, 0), some (.areturn, 1, 0, 0)]
def tb_X3_readsKind : List (Option m_E) := [some (.aload_n 0, 1, 0, 0), some (.bipush 42, 2, 0, 0), none, some (.invokevirtual 36, 3, 30, 1), none, none, some (.ifCond .eq 7, 3, 13, 0), none, none, some (.iconst 4, 1, 0, 0), some (.goto 8, 3, 18, 0), none, none, some (.aload_n 0, 1, 0, 0), some (.iconst 3, 1, 0, 0), some (.invokevirtual 53, 3, 28, 1), none, none, some (.istore_n 2, 1, 0, 0), some (.iload_n 2, 1, 0, 0), some (.ifCond .ge 5, 3, 25, 0), none, none, some (.iconst 0, 1, 0, 0), some (.ireturn, 1, 0, 1), some (.aload_n 0, 1, 0, 0), some (.getfield 22, 3, 203, 3), none, none, some (.iload_n 1, 1, 0, 0), some (.iconst 1, 1, 0, 0), some (.iadd, 1, 0, 0), some (.putfield 57, 3, 0, 6), none, none, some (.aload_n 0, 1, 0, 0), some (.getfield 22, 3, 203, 3), none, none, some (.getfield 60, 3, 201, 6), none, none, some (.iload_n 1, 1, 0, 0), some (.iload_n 2, 1, 0, 0), some (.iastore, 1, 0, 0), some (.aload_n 0, 1, 0, 0), some (.getfield 22, 3, 203, 3), none, none, some (.getfield 63, 3, 202, 6), none, none, some (.iload_n 1, 1, 0, 0), some (.aload_n 0, 1, 0, 0), some (.getfield 22, 3, 203, 3), none, none, some (.getfield 45, 3, 6, 6), none, none, some (.iastore, 1, 0, 0), some (.iconst 1, 1, 0, 0), some (.ireturn, 1, 0, 1)]
def tb_X3_readsE : List (Option m_E) := [some (.aload_n 0, 1, 0, 0), some (.iload_n 1, 1, 0, 0), some (.invokevirtual 66, 3, 21, 1), none, none, some (.ifCond .ne 5, 3, 10, 0), none, none, some (.iconst 0, 1, 0, 0), some (.ireturn, 1, 0, 1), some (.aload_n 0, 1, 0, 0), some (.getfield 19, 3, 2, 3), none, none, some (.aload_n 0, 1, 0, 0), some (.getfield 15, 3, 1, 3), none, none, some (.if_icmp .ge 34, 3, 52, 0), none, none, some (.aload_n 0, 1, 0, 0), some (.bipush 124, 2, 0, 0), none, some (.invokevirtual 36, 3, 30, 1), none, none, some (.ifCond .eq 25, 3, 52, 0), none, none, some (.aload_n 0, 1, 0, 0), some (.iload_n 1, 1, 0, 0), some (.invokevirtual 66, 3, 21, 1), none, none, some (.ifCond .ne 5, 3, 40, 0), none, none, some (.iconst 0, 1, 0, 0), some (.ireturn, 1, 0, 1), some (.aload_n 0, 1, 0, 0), some (.getfield 22, 3, 203, 3), none, none, some (.bipush 125, 2, 0, 0), none, some (.invokevirtual 69, 3, 50, 1), none, none, some (.goto (-39), 3, 10, 0), none, none, some (.iconst 1, 1, 0, 0), some (.ireturn, 1, 0, 1)]
def tb_X3_readsT : List (Option m_E) := [some (.aload_n 0, 1, 0, 0), some (.iload_n 1, 1, 0, 0), some (.invokevirtual 73, 3, 22, 1), none, none, some (.ifCond .ne 5, 3, 10, 0), none, none, some (.iconst 0, 1, 0, 0), some (.ireturn, 1, 0, 1), some (.aload_n 0, 1, 0, 0), some (.getfield 19, 3, 2, 3), none, none, some (.aload_n 0, 1, 0, 0), some (.getfield 15, 3, 1, 3), none, none, some (.if_icmp .ge 34, 3, 52, 0), none, none, some (.aload_n 0, 1, 0, 0), some (.bipush 38, 2, 0, 0), none, some (.invokevirtual 36, 3, 30, 1), none, none, some (.ifCond .eq 25, 3, 52, 0), none, none, some (.aload_n 0, 1, 0, 0), some (.iload_n 1, 1, 0, 0), some (.invokevirtual 73, 3, 22, 1), none, none, some (.ifCond .ne 5, 3, 40, 0), none, none, some (.iconst 0, 1, 0, 0), some (.ireturn, 1, 0, 1), some (.aload_n 0, 1, 0, 0), some (.getfield 22, 3, 203, 3), none, none, some (.bipush 124, 2, 0, 0), none, some (.invokevirtual 69, 3, 50, 1), none, none, some (.goto (-39), 3, 10, 0), none, none, some (.iconst 1, 1, 0, 0), some (.ireturn, 1, 0, 1)]
def tb_X3_readsF : List (Option m_E) := [some (.iload_n 1, 1, 0, 0), some (.istore_n 2, 1, 0, 0), some (.iload_n 2, 1, 0, 0), some (.iconst 5, 1, 0, 0), some (.if_icmp .ge 18, 3, 22, 0), none, none, some (.aload_n 0, 1, 0, 0), some (.bipush 33, 2, 0, 0), none, some (.invokevirtual 36, 3, 30, 1), none, none, some (.ifCond .eq 9, 3, 22, 0), none, none, some (.iinc 2 1, 3, 0, 0), none, none, some (.goto (-17), 3, 2, 0), none, none, some (.aload_n 0, 1, 0, 0), some (.invokevirtual 76, 3, 29, 0), none, none, some (.bipush 40, 2, 0, 0), none, some (.if_icmp .ne 41, 3, 69, 0), none, none, some (.iload_n 2, 1, 0, 0), some (.iconst 5, 1, 0, 0), some (.if_icmp .lt 5, 3, 38, 0), none, none, some (.iconst 0, 1, 0, 0), some (.ireturn, 1, 0, 1), some (.aload_n 0, 1, 0, 0), some (.dup, 1, 0, 0), some (.getfield 19, 3, 2, 3), none, none, some (.iconst 1, 1, 0, 0), some (.iadd, 1, 0, 0), some (.putfield 19, 3, 2, 3), none, none, some (.aload_n 0, 1, 0, 0), some (.iload_n 2, 1, 0, 0), some (.iconst 1, 1, 0, 0), some (.iadd, 1, 0, 0), some (.invokevirtual 39, 3, 20, 1), none, none, some (.ifCond .eq 12, 3, 67, 0), none, none, some (.aload_n 0, 1, 0, 0), some (.bipush 41, 2, 0, 0), none, some (.invokevirtual 36, 3, 30, 1), none, none, some (.ifCond .ne 14, 3, 78, 0), none, none, some (.iconst 0, 1, 0, 0), some (.ireturn, 1, 0, 1), some (.aload_n 0, 1, 0, 0), some (.invokevirtual 80, 3, 23, 0), none, none, some (.ifCond .ne 5, 3, 78, 0), none, none, some (.iconst 0, 1, 0, 0), some (.ireturn, 1, 0, 1), some (.iload_n 1, 1, 0, 0), some (.istore_n 3, 1, 0, 0), some (.iload_n 3, 1, 0, 0), some (.iload_n 2, 1, 0, 0), some (.if_icmp .ge 18, 3, 100, 0), none, none, some (.aload_n 0, 1, 0, 0), some (.getfield 22, 3, 203, 3), none, none, some (.bipush 123, 2, 0, 0), none, some (.invokevirtual 69, 3, 50, 1), none, none, some (.iinc 3 1, 3, 0, 0), none, none, some (.goto (-17), 3, 80, 0), none, none, some (.iconst 1, 1, 0, 0), some (.ireturn, 1, 0, 1)]
def tb_X3_readsTest : List (Option m_E) := [some (.aload_n 0, 1, 0, 0), some (.invokevirtual 84, 3, 27, 0), none, none, some (.istore_n 1, 1, 0, 0), some (.iload_n 1, 1, 0, 0), some (.ifCond .ge 5, 3, 11, 0), none, none, some (.iconst 0, 1, 0, 0), some (.ireturn, 1, 0, 1), some (.aload_n 0, 1, 0, 0), some (.bipush 60, 2, 0, 0), none, some (.invokevirtual 36, 3, 30, 1), none, none, some (.ifCond .eq 8, 3, 25, 0), none, none, some (.bipush 120, 2, 0, 0), none, some (.goto 32, 3, 54, 0), none, none, some (.aload_n 0, 1, 0, 0), some (.bipush 61, 2, 0, 0), none, some (.invokevirtual 36, 3, 30, 1), none, none, some (.ifCond .eq 8, 3, 39, 0), none, none, some (.bipush 121, 2, 0, 0), none, some (.goto 18, 3, 54, 0), none, none, some (.aload_n 0, 1, 0, 0), some (.bipush 62, 2, 0, 0), none, some (.invokevirtual 36, 3, 30, 1), none, none, some (.ifCond .eq 8, 3, 53, 0), none, none, some (.bipush 122, 2, 0, 0), none, some (.goto 4, 3, 54, 0), none, none, some (.iconst (-1), 1, 0, 0), some (.istore_n 2, 1, 0, 0), some (.iload_n 2, 1, 0, 0), some (.ifCond .ge 5, 3, 61, 0), none, none, some (.iconst 0, 1, 0, 0), some (.ireturn, 1, 0, 1), some (.aload_n 0, 1, 0, 0), some (.invokevirtual 84, 3, 27, 0), none, none, some (.istore_n 3, 1, 0, 0), some (.iload_n 3, 1, 0, 0), some (.ifCond .ge 5, 3, 72, 0), none, none, some (.iconst 0, 1, 0, 0), some (.ireturn, 1, 0, 1), some (.aload_n 0, 1, 0, 0), some (.getfield 22, 3, 203, 3), none, none, some (.iload_n 2, 1, 0, 0), some (.invokevirtual 69, 3, 50, 1), none, none, some (.aload_n 0, 1, 0, 0), some (.getfield 22, 3, 203, 3), none, none, some (.iload_n 1, 1, 0, 0), some (.invokevirtual 69, 3, 50, 1), none, none, some (.aload_n 0, 1, 0, 0), some (.getfield 22, 3, 203, 3), none, none, some (.iload_n 3, 1, 0, 0), some (.invokevirtual 69, 3, 50, 1), none, none, some (.aload_n 0, 1, 0, 0), some (.getfield 22, 3, 203, 3), none, none, some (.iload_n 1, 1, 0, 0), some (.iconst 0, 1, 0, 0), some (.invokevirtual 87, 3, 53, 2), none, none, some (.aload_n 0, 1, 0, 0), some (.getfield 22, 3, 203, 3), none, none, some (.iload_n 3, 1, 0, 0), some (.iconst 0, 1, 0, 0), some (.invokevirtual 87, 3, 53, 2), none, none, some (.iconst 1, 1, 0, 0), some (.ireturn, 1, 0, 1)]
def tb_X3_readsActs : List (Option m_E) := [some (.iconst 0, 1, 0, 0), some (.istore_n 2, 1, 0, 0), some (.iload_n 2, 1, 0, 0), some (.iconst 5, 1, 0, 0), some (.if_icmp .ge 56, 3, 60, 0), none, none, some (.aload_n 0, 1, 0, 0), some (.invokevirtual 91, 3, 25, 0), none, none, some (.ifCond .ne 5, 3, 16, 0), none, none, some (.iconst 0, 1, 0, 0), some (.ireturn, 1, 0, 1), some (.aload_n 0, 1, 0, 0), some (.getfield 22, 3, 203, 3), none, none, some (.getfield 94, 3, 204, 6), none, none, some (.iload_n 1, 1, 0, 0), some (.iload_n 2, 1, 0, 0), some (.iconst 1, 1, 0, 0), some (.iadd, 1, 0, 0), some (.iastore, 1, 0, 0), some (.aload_n 0, 1, 0, 0), some (.invokevirtual 76, 3, 29, 0), none, none, some (.bipush 44, 2, 0, 0), none, some (.if_icmp .eq 5, 3, 39, 0), none, none, some (.iconst 1, 1, 0, 0), some (.ireturn, 1, 0, 1), some (.iload_n 2, 1, 0, 0), some (.iconst 4, 1, 0, 0), some (.if_icmp .ge 13, 3, 54, 0), none, none, some (.aload_n 0, 1, 0, 0), some (.dup, 1, 0, 0), some (.getfield 19, 3, 2, 3), none, none, some (.iconst 1, 1, 0, 0), some (.iadd, 1, 0, 0), some (.putfield 19, 3, 2, 3), none, none, some (.iinc 2 1, 3, 0, 0), none, none, some (.goto (-55), 3, 2, 0), none, none, some (.iconst 0, 1, 0, 0), some (.ireturn, 1, 0, 1)]
def tb_X3_readsAct : List (Option m_E) := [some (.aload_n 0, 1, 0, 0), some (.bipush 112, 2, 0, 0), none, some (.invokevirtual 36, 3, 30, 1), none, none, some (.ifCond .eq 8, 3, 14, 0), none, none, some (.bipush 126, 2, 0, 0), none, some (.goto 33, 3, 44, 0), none, none, some (.aload_n 0, 1, 0, 0), some (.bipush 100, 2, 0, 0), none, some (.invokevirtual 36, 3, 30, 1), none, none, some (.ifCond .eq 8, 3, 28, 0), none, none, some (.bipush 127, 2, 0, 0), none, some (.goto 19, 3, 44, 0), none, none, some (.aload_n 0, 1, 0, 0), some (.bipush 98, 2, 0, 0), none, some (.invokevirtual 36, 3, 30, 1), none, none, some (.ifCond .eq 9, 3, 43, 0), none, none, some (.sipush 128, 3, 0, 0), none, none, some (.goto 4, 3, 44, 0), none, none, some (.iconst (-1), 1, 0, 0), some (.istore_n 1, 1, 0, 0), some (.iload_n 1, 1, 0, 0), some (.ifCond .lt 13, 3, 59, 0), none, none, some (.aload_n 0, 1, 0, 0), some (.getfield 22, 3, 203, 3), none, none, some (.iload_n 1, 1, 0, 0), some (.invokevirtual 69, 3, 50, 1), none, none, some (.iconst 1, 1, 0, 0), some (.ireturn, 1, 0, 1), some (.aload_n 0, 1, 0, 0), some (.invokevirtual 76, 3, 29, 0), none, none, some (.bipush 116, 2, 0, 0), none, some (.if_icmp .eq 23, 3, 88, 0), none, none, some (.aload_n 0, 1, 0, 0), some (.invokevirtual 76, 3, 29, 0), none, none, some (.bipush 115, 2, 0, 0), none, some (.if_icmp .eq 14, 3, 88, 0), none, none, some (.aload_n 0, 1, 0, 0), some (.invokevirtual 76, 3, 29, 0), none, none, some (.bipush 103, 2, 0, 0), none, some (.if_icmp .eq 5, 3, 88, 0), none, none, some (.iconst 0, 1, 0, 0), some (.ireturn, 1, 0, 1), some (.aload_n 0, 1, 0, 0), some (.invokevirtual 84, 3, 27, 0), none, none, some (.istore_n 2, 1, 0, 0), some (.iload_n 2, 1, 0, 0), some (.ifCond .lt 12, 3, 106, 0), none, none, some (.aload_n 0, 1, 0, 0), some (.bipush 61, 2, 0, 0), none, some (.invokevirtual 36, 3, 30, 1), none, none, some (.ifCond .ne 5, 3, 108, 0), none, none, some (.iconst 0, 1, 0, 0), some (.ireturn, 1, 0, 1), some (.aload_n 0, 1, 0, 0), some (.getfield 22, 3, 203, 3), none, none, some (.iload_n 2, 1, 0, 0), some (.invokevirtual 69, 3, 50, 1), none, none, some (.aload_n 0, 1, 0, 0), some (.iload_n 2, 1, 0, 0), some (.invokevirtual 97, 3, 26, 1), none, none, some (.ireturn, 1, 0, 1)]
def tb_X3_readsSum : List (Option m_E) := [some (.aload_n 0, 1, 0, 0), some (.getfield 22, 3, 203, 3), none, none, some (.getfield 45, 3, 6, 6), none, none, some (.istore_n 2, 1, 0, 0), some (.iconst 0, 1, 0, 0), some (.istore_n 3, 1, 0, 0), some (.aload_n 0, 1, 0, 0), some (.getfield 22, 3, 203, 3), none, none, some (.iconst 0, 1, 0, 0), some (.invokevirtual 69, 3, 50, 1), none, none, some (.iconst 1, 1, 0, 0), some (.istore 4, 2, 0, 0), none, some (.iload 4, 2, 0, 0), none, some (.iconst 4, 1, 0, 0), some (.if_icmp .gt 142, 3, 166, 0), none, none, some (.aload_n 0, 1, 0, 0), some (.invokevirtual 84, 3, 27, 0), none, none, some (.istore 5, 2, 0, 0), none, some (.iload 5, 2, 0, 0), none, some (.ifCond .ge 5, 3, 40, 0), none, none, some (.iconst 0, 1, 0, 0), some (.ireturn, 1, 0, 1), some (.iload 4, 2, 0, 0), none, some (.iconst 1, 1, 0, 0), some (.if_icmp .ne 13, 3, 56, 0), none, none, some (.iload 5, 2, 0, 0), none, some (.iload_n 1, 1, 0, 0), some (.if_icmp .ne 7, 3, 56, 0), none, none, some (.iconst 1, 1, 0, 0), some (.goto 4, 3, 57, 0), none, none, some (.iconst 0, 1, 0, 0), some (.istore 6, 2, 0, 0), none, some (.aload_n 0, 1, 0, 0), some (.getfield 22, 3, 203, 3), none, none, some (.iload 5, 2, 0, 0), none, some (.iload_n 3, 1, 0, 0), some (.iadd, 1, 0, 0), some (.invokevirtual 69, 3, 50, 1), none, none, some (.aload_n 0, 1, 0, 0), some (.getfield 22, 3, 203, 3), none, none, some (.iload 5, 2, 0, 0), none, some (.iload 6, 2, 0, 0), none, some (.invokevirtual 87, 3, 53, 2), none, none, some (.iload 4, 2, 0, 0), none, some (.iconst 1, 1, 0, 0), some (.if_icmp .ne 13, 3, 97, 0), none, none, some (.aload_n 0, 1, 0, 0), some (.getfield 22, 3, 203, 3), none, none, some (.iload_n 1, 1, 0, 0), some (.iload 6, 2, 0, 0), none, some (.invokevirtual 87, 3, 53, 2), none, none, some (.aload_n 0, 1, 0, 0), some (.getfield 22, 3, 203, 3), none, none, some (.iload_n 2, 1, 0, 0), some (.iload 4, 2, 0, 0), none, some (.invokevirtual 100, 3, 51, 2), none, none, some (.aload_n 0, 1, 0, 0), some (.invokevirtual 76, 3, 29, 0), none, none, some (.bipush 43, 2, 0, 0), none, some (.if_icmp .eq 14, 3, 127, 0), none, none, some (.aload_n 0, 1, 0, 0), some (.invokevirtual 76, 3, 29, 0), none, none, some (.bipush 45, 2, 0, 0), none, some (.if_icmp .eq 5, 3, 127, 0), none, none, some (.iconst 1, 1, 0, 0), some (.ireturn, 1, 0, 1), some (.aload_n 0, 1, 0, 0), some (.invokevirtual 76, 3, 29, 0), none, none, some (.bipush 45, 2, 0, 0), none, some (.if_icmp .ne 9, 3, 142, 0), none, none, some (.sipush 256, 3, 0, 0), none, none, some (.goto 4, 3, 143, 0), none, none, some (.iconst 0, 1, 0, 0), some (.istore_n 3, 1, 0, 0), some (.iload 4, 2, 0, 0), none, some (.iconst 4, 1, 0, 0), some (.if_icmp .ge 13, 3, 160, 0), none, none, some (.aload_n 0, 1, 0, 0), some (.dup, 1, 0, 0), some (.getfield 19, 3, 2, 3), none, none, some (.iconst 1, 1, 0, 0), some (.iadd, 1, 0, 0), some (.putfield 19, 3, 2, 3), none, none, some (.iinc 4 1, 3, 0, 0), none, none, some (.goto (-142), 3, 21, 0), none, none, some (.iconst 0, 1, 0, 0), some (.ireturn, 1, 0, 1)]
def tb_X3_term : List (Option m_E) := [some (.aload_n 0, 1, 0, 0), some (.bipush 107, 2, 0, 0), none, some (.invokevirtual 36, 3, 30, 1), none, none, some (.ifCond .eq 6, 3, 12, 0), none, none, some (.bipush 100, 2, 0, 0), none, some (.ireturn, 1, 0, 0), some (.aload_n 0, 1, 0, 0), some (.bipush 104, 2, 0, 0), none, some (.invokevirtual 36, 3, 30, 1), none, none, some (.ifCond .eq 6, 3, 24, 0), none, none, some (.bipush 101, 2, 0, 0), none, some (.ireturn, 1, 0, 0), some (.aload_n 0, 1, 0, 0), some (.bipush 110, 2, 0, 0), none, some (.invokevirtual 36, 3, 30, 1), none, none, some (.ifCond .eq 6, 3, 36, 0), none, none, some (.bipush 102, 2, 0, 0), none, some (.ireturn, 1, 0, 0), some (.aload_n 0, 1, 0, 0), some (.bipush 116, 2, 0, 0), none, some (.invokevirtual 36, 3, 30, 1), none, none, some (.ifCond .eq 7, 3, 49, 0), none, none, some (.iconst 0, 1, 0, 0), some (.goto 30, 3, 76, 0), none, none, some (.aload_n 0, 1, 0, 0), some (.bipush 115, 2, 0, 0), none, some (.invokevirtual 36, 3, 30, 1), none, none, some (.ifCond .eq 7, 3, 62, 0), none, none, some (.iconst 1, 1, 0, 0), some (.goto 17, 3, 76, 0), none, none, some (.aload_n 0, 1, 0, 0), some (.bipush 103, 2, 0, 0), none, some (.invokevirtual 36, 3, 30, 1), none, none, some (.ifCond .eq 7, 3, 75, 0), none, none, some (.iconst 2, 1, 0, 0), some (.goto 4, 3, 76, 0), none, none, some (.iconst (-1), 1, 0, 0), some (.istore_n 1, 1, 0, 0), some (.iload_n 1, 1, 0, 0), some (.ifCond .lt 26, 3, 104, 0), none, none, some (.aload_n 0, 1, 0, 0), some (.iconst 3, 1, 0, 0), some (.invokevirtual 53, 3, 28, 1), none, none, some (.istore_n 2, 1, 0, 0), some (.iload_n 2, 1, 0, 0), some (.ifCond .ge 7, 3, 95, 0), none, none, some (.iconst (-1), 1, 0, 0), some (.goto 11, 3, 103, 0), none, none, some (.bipush 104, 2, 0, 0), none, some (.iload_n 1, 1, 0, 0), some (.iconst 4, 1, 0, 0), some (.imul, 1, 0, 0), some (.iadd, 1, 0, 0), some (.iload_n 2, 1, 0, 0), some (.iadd, 1, 0, 0), some (.ireturn, 1, 0, 0), some (.aload_n 0, 1, 0, 0), some (.bipush 9, 2, 0, 0), none, some (.invokevirtual 53, 3, 28, 1), none, none, some (.istore_n 2, 1, 0, 0), some (.iload_n 2, 1, 0, 0), some (.ifCond .gt 5, 3, 117, 0), none, none, some (.iload_n 2, 1, 0, 0), some (.ireturn, 1, 0, 0), some (.aload_n 0, 1, 0, 0), some (.bipush 9, 2, 0, 0), none, some (.invokevirtual 53, 3, 28, 1), none, none, some (.istore_n 3, 1, 0, 0), some (.iload_n 3, 1, 0, 0), some (.ifCond .ge 7, 3, 132, 0), none, none, some (.iload_n 2, 1, 0, 0), some (.goto 9, 3, 138, 0), none, none, some (.iload_n 2, 1, 0, 0), some (.bipush 10, 2, 0, 0), none, some (.imul, 1, 0, 0), some (.iload_n 3, 1, 0, 0), some (.iadd, 1, 0, 0), some (.ireturn, 1, 0, 0)]
def tb_X3_takesDigit : List (Option m_E) := [some (.aload_n 0, 1, 0, 0), some (.getfield 19, 3, 2, 3), none, none, some (.aload_n 0, 1, 0, 0), some (.getfield 15, 3, 1, 3), none, none, some (.if_icmp .ge 18, 3, 26, 0), none, none, some (.aload_n 0, 1, 0, 0), some (.getfield 9, 3, 200, 3), none, none, some (.aload_n 0, 1, 0, 0), some (.getfield 19, 3, 2, 3), none, none, some (.iaload, 1, 0, 0), some (.bipush 48, 2, 0, 0), none, some (.isub, 1, 0, 0), some (.goto 4, 3, 27, 0), none, none, some (.iconst (-1), 1, 0, 0), some (.istore_n 2, 1, 0, 0), some (.iload_n 2, 1, 0, 0), some (.ifCond .lt 8, 3, 37, 0), none, none, some (.iload_n 2, 1, 0, 0), some (.iload_n 1, 1, 0, 0), some (.if_icmp .le 5, 3, 39, 0), none, none, some (.iconst (-1), 1, 0, 0), some (.ireturn, 1, 0, 0), some (.aload_n 0, 1, 0, 0), some (.dup, 1, 0, 0), some (.getfield 19, 3, 2, 3), none, none, some (.iconst 1, 1, 0, 0), some (.iadd, 1, 0, 0), some (.putfield 19, 3, 2, 3), none, none, some (.iload_n 2, 1, 0, 0), some (.ireturn, 1, 0, 0)]
def tb_X3_next : List (Option m_E) := [some (.aload_n 0, 1, 0, 0), some (.getfield 19, 3, 2, 3), none, none, some (.aload_n 0, 1, 0, 0), some (.getfield 15, 3, 1, 3), none, none, some (.if_icmp .ge 15, 3, 23, 0), none, none, some (.aload_n 0, 1, 0, 0), some (.getfield 9, 3, 200, 3), none, none, some (.aload_n 0, 1, 0, 0), some (.getfield 19, 3, 2, 3), none, none, some (.iaload, 1, 0, 0), some (.goto 4, 3, 24, 0), none, none, some (.iconst (-1), 1, 0, 0), some (.ireturn, 1, 0, 0)]
def tb_X3_takes : List (Option m_E) := [some (.aload_n 0, 1, 0, 0), some (.getfield 19, 3, 2, 3), none, none, some (.aload_n 0, 1, 0, 0), some (.getfield 15, 3, 1, 3), none, none, some (.if_icmp .ge 16, 3, 24, 0), none, none, some (.aload_n 0, 1, 0, 0), some (.getfield 9, 3, 200, 3), none, none, some (.aload_n 0, 1, 0, 0), some (.getfield 19, 3, 2, 3), none, none, some (.iaload, 1, 0, 0), some (.iload_n 1, 1, 0, 0), some (.if_icmp .eq 5, 3, 26, 0), none, none, some (.iconst 0, 1, 0, 0), some (.ireturn, 1, 0, 1), some (.aload_n 0, 1, 0, 0), some (.dup, 1, 0, 0), some (.getfield 19, 3, 2, 3), none, none, some (.iconst 1, 1, 0, 0), some (.iadd, 1, 0, 0), some (.putfield 19, 3, 2, 3), none, none, some (.iconst 1, 1, 0, 0), some (.ireturn, 1, 0, 1)]
def tb_X4_init : List (Option m_E) := [some (.aload_n 0, 1, 0, 0), some (.invokespecial 3, 3, 9998, 0), none, none, some (.aload_n 0, 1, 0, 0), some (.bipush 16, 2, 0, 0), none, some (.anewarray 9, 3, 0, 25), none, none, some (.putfield 11, 3, 200, 4), none, none, some (.aload_n 0, 1, 0, 0), some (.iconst 4, 1, 0, 0), some (.anewarray 17, 3, 0, 26), none, none, some (.putfield 19, 3, 201, 4), none, none, some (.aload_n 0, 1, 0, 0), some (.iconst 4, 1, 0, 0), some (.anewarray 23, 3, 0, 22), none, none, some (.putfield 25, 3, 202, 4), none, none, some (.aload_n 0, 1, 0, 0), some (.iconst 4, 1, 0, 0), some (.newarray .int, 2, 0, 20), none, some (.putfield 29, 3, 203, 4), none, none, some (.aload_n 0, 1, 0, 0), some (.iconst 3, 1, 0, 0), some (.newarray .int, 2, 0, 20), none, some (.putfield 33, 3, 209, 4), none, none, some (.iconst 0, 1, 0, 0), some (.istore_n 1, 1, 0, 0), some (.iload_n 1, 1, 0, 0), some (.aload_n 0, 1, 0, 0), some (.getfield 11, 3, 200, 4), none, none, some (.arraylength, 1, 0, 0), some (.if_icmp .ge 22, 3, 73, 0), none, none, some (.aload_n 0, 1, 0, 0), some (.getfield 11, 3, 200, 4), none, none, some (.iload_n 1, 1, 0, 0), some (.new 9, 3, 0, 1), none, none, some (.dup, 1, 0, 0), some (.invokespecial 36, 3, 6, 0), none, none, some (.aastore, 1, 0, 0), some (.iinc 1 1, 3, 0, 0), none, none, some (.goto (-25), 3, 45, 0), none, none, some (.iconst 0, 1, 0, 0), some (.istore_n 1, 1, 0, 0), some (.iload_n 1, 1, 0, 0), some (.aload_n 0, 1, 0, 0), some (.getfield 19, 3, 201, 4), none, none, some (.arraylength, 1, 0, 0), some (.if_icmp .ge 22, 3, 103, 0), none, none, some (.aload_n 0, 1, 0, 0), some (.getfield 19, 3, 201, 4), none, none, some (.iload_n 1, 1, 0, 0), some (.new 17, 3, 0, 8), none, none, some (.dup, 1, 0, 0), some (.invokespecial 37, 3, 64, 0), none, none, some (.aastore, 1, 0, 0), some (.iinc 1 1, 3, 0, 0), none, none, some (.goto (-25), 3, 75, 0), none, none, some (.return_, 1, 0, 0)]
def tb_X4_begin : List (Option m_E) := [some (.aload_n 0, 1, 0, 0), some (.aload_n 1, 1, 0, 0), some (.putfield 38, 3, 205, 4), none, none, some (.aload_n 0, 1, 0, 0), some (.iload_n 2, 1, 0, 0), some (.putfield 42, 3, 6, 4), none, none, some (.aload_n 0, 1, 0, 0), some (.iload_n 3, 1, 0, 0), some (.putfield 46, 3, 7, 4), none, none, some (.aload_n 0, 1, 0, 0), some (.iload 4, 2, 0, 0), none, some (.putfield 49, 3, 8, 4), none, none, some (.aload_n 0, 1, 0, 0), some (.iconst 0, 1, 0, 0), some (.putfield 52, 3, 4, 4), none, none, some (.return_, 1, 0, 0)]
def tb_X4_add : List (Option m_E) := [some (.aload_n 0, 1, 0, 0), some (.getfield 52, 3, 4, 4), none, none, some (.iconst 4, 1, 0, 0), some (.if_icmp .ge 7, 3, 12, 0), none, none, some (.aload_n 1, 1, 0, 0), some (.ifnonnull 4, 3, 13, 0), none, none, some (.return_, 1, 0, 0), some (.aload_n 0, 1, 0, 0), some (.getfield 25, 3, 202, 4), none, none, some (.aload_n 0, 1, 0, 0), some (.getfield 52, 3, 4, 4), none, none, some (.aload_n 1, 1, 0, 0), some (.aastore, 1, 0, 0), some (.aload_n 0, 1, 0, 0), some (.getfield 29, 3, 203, 4), none, none, some (.aload_n 0, 1, 0, 0), some (.getfield 52, 3, 4, 4), none, none, some (.iload_n 2, 1, 0, 0), some (.iastore, 1, 0, 0), some (.aload_n 0, 1, 0, 0), some (.dup, 1, 0, 0), some (.getfield 52, 3, 4, 4), none, none, some (.iconst 1, 1, 0, 0), some (.iadd, 1, 0, 0), some (.putfield 52, 3, 4, 4), none, none, some (.return_, 1, 0, 0)]
def tb_X4_shortest : List (Option m_E) := [some (.iconst 1, 1, 0, 0), some (.istore_n 2, 1, 0, 0), some (.iload_n 2, 1, 0, 0), some (.iload_n 1, 1, 0, 0), some (.if_icmp .gt 25, 3, 29, 0), none, none, some (.iload_n 2, 1, 0, 0), some (.iconst 3, 1, 0, 0), some (.if_icmp .gt 20, 3, 29, 0), none, none, some (.aload_n 0, 1, 0, 0), some (.iconst 0, 1, 0, 0), some (.iload_n 2, 1, 0, 0), some (.invokestatic 55, 3, 35, 3), none, none, some (.ifCond .eq 5, 3, 23, 0), none, none, some (.iload_n 2, 1, 0, 0), some (.ireturn, 1, 0, 0), some (.iinc 2 1, 3, 0, 0), none, none, some (.goto (-24), 3, 2, 0), none, none, some (.iconst 0, 1, 0, 0), some (.ireturn, 1, 0, 0)]
def tb_X4_finds : List (Option m_E) := [some (.iload_n 1, 1, 0, 0), some (.ifCond .lt 13, 3, 14, 0), none, none, some (.iload_n 1, 1, 0, 0), some (.iload_n 2, 1, 0, 0), some (.if_icmp .ge 8, 3, 14, 0), none, none, some (.iload_n 2, 1, 0, 0), some (.iconst 3, 1, 0, 0), some (.if_icmp .le 5, 3, 16, 0), none, none, some (.iconst 0, 1, 0, 0), some (.ireturn, 1, 0, 1), some (.iconst 0, 1, 0, 0), some (.istore_n 3, 1, 0, 0), some (.iload_n 3, 1, 0, 0), some (.aload_n 0, 1, 0, 0), some (.getfield 42, 3, 6, 4), none, none, some (.if_icmp .ge 87, 3, 110, 0), none, none, some (.aload_n 0, 1, 0, 0), some (.getfield 38, 3, 205, 4), none, none, some (.iload_n 3, 1, 0, 0), some (.aaload, 1, 0, 0), some (.astore 4, 2, 0, 0), none, some (.aload 4, 2, 0, 0), none, some (.ifnonnull 6, 3, 42, 0), none, none, some (.goto 65, 3, 104, 0), none, none, some (.aload_n 0, 1, 0, 0), some (.getfield 33, 3, 209, 4), none, none, some (.iload_n 1, 1, 0, 0), some (.iload_n 3, 1, 0, 0), some (.iastore, 1, 0, 0), some (.aload_n 0, 1, 0, 0), some (.getfield 46, 3, 7, 4), none, none, some (.iconst (-1), 1, 0, 0), some (.if_icmp .ne 13, 3, 67, 0), none, none, some (.aload_n 0, 1, 0, 0), some (.iload_n 1, 1, 0, 0), some (.aload 4, 2, 0, 0), none, some (.invokevirtual 59, 3, 37, 2), none, none, some (.goto 10, 3, 74, 0), none, none, some (.aload_n 0, 1, 0, 0), some (.iload_n 1, 1, 0, 0), some (.aload 4, 2, 0, 0), none, some (.invokevirtual 63, 3, 36, 2), none, none, some (.istore 5, 2, 0, 0), none, some (.iload_n 1, 1, 0, 0), some (.iconst 1, 1, 0, 0), some (.iadd, 1, 0, 0), some (.iload_n 2, 1, 0, 0), some (.if_icmp .ne 11, 3, 91, 0), none, none, some (.iload 5, 2, 0, 0), none, some (.ifCond .eq 19, 3, 104, 0), none, none, some (.goto 14, 3, 102, 0), none, none, some (.aload_n 0, 1, 0, 0), some (.iload_n 1, 1, 0, 0), some (.iconst 1, 1, 0, 0), some (.iadd, 1, 0, 0), some (.iload_n 2, 1, 0, 0), some (.invokestatic 55, 3, 35, 3), none, none, some (.ifCond .eq 5, 3, 104, 0), none, none, some (.iconst 1, 1, 0, 0), some (.ireturn, 1, 0, 1), some (.iinc 3 1, 3, 0, 0), none, none, some (.goto (-89), 3, 18, 0), none, none, some (.iconst 0, 1, 0, 0), some (.ireturn, 1, 0, 1)]
def tb_X4_breaks : List (Option m_E) := [some (.iconst 1, 1, 0, 0), some (.istore_n 3, 1, 0, 0), some (.iconst 0, 1, 0, 0), some (.istore 4, 2, 0, 0), none, some (.iload 4, 2, 0, 0), none, some (.aload_n 0, 1, 0, 0), some (.getfield 52, 3, 4, 4), none, none, some (.if_icmp .ge 53, 3, 64, 0), none, none, some (.aload_n 0, 1, 0, 0), some (.iload_n 1, 1, 0, 0), some (.iload 4, 2, 0, 0), none, some (.invokevirtual 66, 3, 38, 2), none, none, some (.astore 5, 2, 0, 0), none, some (.iload_n 3, 1, 0, 0), some (.iconst 1, 1, 0, 0), some (.if_icmp .eq 6, 3, 31, 0), none, none, some (.goto 30, 3, 58, 0), none, none, some (.aload_n 0, 1, 0, 0), some (.getfield 25, 3, 202, 4), none, none, some (.iload 4, 2, 0, 0), none, some (.aaload, 1, 0, 0), some (.aload_n 0, 1, 0, 0), some (.getfield 25, 3, 202, 4), none, none, some (.iload 4, 2, 0, 0), none, some (.aaload, 1, 0, 0), some (.aload_n 2, 1, 0, 0), some (.aload 5, 2, 0, 0), none, some (.invokevirtual 70, 3, 54, 2), none, none, some (.aload_n 2, 1, 0, 0), some (.aload 5, 2, 0, 0), none, some (.invokevirtual 74, 3, 56, 3), none, none, some (.istore_n 3, 1, 0, 0), some (.iinc 4 1, 3, 0, 0), none, none, some (.goto (-56), 3, 5, 0), none, none, some (.aload_n 0, 1, 0, 0), some (.getfield 19, 3, 201, 4), none, none, some (.iload_n 1, 1, 0, 0), some (.iconst 1, 1, 0, 0), some (.iadd, 1, 0, 0), some (.aaload, 1, 0, 0), some (.aload_n 0, 1, 0, 0), some (.getfield 19, 3, 201, 4), none, none, some (.iload_n 1, 1, 0, 0), some (.aaload, 1, 0, 0), some (.invokevirtual 78, 3, 65, 1), none, none, some (.aload_n 0, 1, 0, 0), some (.getfield 19, 3, 201, 4), none, none, some (.iload_n 1, 1, 0, 0), some (.iconst 1, 1, 0, 0), some (.iadd, 1, 0, 0), some (.aaload, 1, 0, 0), some (.aload_n 2, 1, 0, 0), some (.iload_n 3, 1, 0, 0), some (.aload_n 0, 1, 0, 0), some (.getfield 46, 3, 7, 4), none, none, some (.aload_n 0, 1, 0, 0), some (.getfield 49, 3, 8, 4), none, none, some (.invokevirtual 82, 3, 66, 4), none, none, some (.ireturn, 1, 0, 1)]
def tb_X4_partsWays : List (Option m_E) := [some (.iconst 1, 1, 0, 0), some (.istore_n 3, 1, 0, 0), some (.iconst 1, 1, 0, 0), some (.istore 4, 2, 0, 0), none, some (.iconst 0, 1, 0, 0), some (.istore 5, 2, 0, 0), none, some (.iload 5, 2, 0, 0), none, some (.aload_n 0, 1, 0, 0), some (.getfield 52, 3, 4, 4), none, none, some (.if_icmp .ge 72, 3, 86, 0), none, none, some (.aload_n 0, 1, 0, 0), some (.iload_n 1, 1, 0, 0), some (.iload 5, 2, 0, 0), none, some (.invokevirtual 66, 3, 38, 2), none, none, some (.astore 6, 2, 0, 0), none, some (.aload_n 0, 1, 0, 0), some (.getfield 25, 3, 202, 4), none, none, some (.iload 5, 2, 0, 0), none, some (.aaload, 1, 0, 0), some (.aload_n 0, 1, 0, 0), some (.getfield 25, 3, 202, 4), none, none, some (.iload 5, 2, 0, 0), none, some (.aaload, 1, 0, 0), some (.aload_n 2, 1, 0, 0), some (.aload 6, 2, 0, 0), none, some (.invokevirtual 70, 3, 54, 2), none, none, some (.aload_n 2, 1, 0, 0), some (.aload 6, 2, 0, 0), none, some (.invokevirtual 74, 3, 56, 3), none, none, some (.istore 7, 2, 0, 0), none, some (.iload 5, 2, 0, 0), none, some (.ifCond .ne 6, 3, 62, 0), none, none, some (.iload 7, 2, 0, 0), none, some (.istore_n 3, 1, 0, 0), some (.iload 4, 2, 0, 0), none, some (.ifCond .eq 13, 3, 77, 0), none, none, some (.iload 7, 2, 0, 0), none, some (.iload_n 3, 1, 0, 0), some (.if_icmp .ne 7, 3, 77, 0), none, none, some (.iconst 1, 1, 0, 0), some (.goto 4, 3, 78, 0), none, none, some (.iconst 0, 1, 0, 0), some (.istore 4, 2, 0, 0), none, some (.iinc 5 1, 3, 0, 0), none, none, some (.goto (-75), 3, 8, 0), none, none, some (.iload 4, 2, 0, 0), none, some (.ifCond .ne 7, 3, 95, 0), none, none, some (.iconst 1, 1, 0, 0), some (.goto 4, 3, 96, 0), none, none, some (.iconst 0, 1, 0, 0), some (.ireturn, 1, 0, 1)]
def tb_X4_carried : List (Option m_E) := [some (.aload_n 0, 1, 0, 0), some (.getfield 11, 3, 200, 4), none, none, some (.iload_n 1, 1, 0, 0), some (.iconst 1, 1, 0, 0), some (.iadd, 1, 0, 0), some (.iconst 4, 1, 0, 0), some (.imul, 1, 0, 0), some (.iload_n 2, 1, 0, 0), some (.iadd, 1, 0, 0), some (.aaload, 1, 0, 0), some (.astore_n 3, 1, 0, 0), some (.aload_n 3, 1, 0, 0), some (.aload_n 0, 1, 0, 0), some (.getfield 11, 3, 200, 4), none, none, some (.iload_n 1, 1, 0, 0), some (.iconst 4, 1, 0, 0), some (.imul, 1, 0, 0), some (.iload_n 2, 1, 0, 0), some (.iadd, 1, 0, 0), some (.aaload, 1, 0, 0), some (.invokevirtual 86, 3, 8, 1), none, none, some (.aload_n 3, 1, 0, 0), some (.areturn, 1, 0, 0)]
def tb_X4_turnsToNextOrder : List (Option m_E) := [some (.aload_n 0, 1, 0, 0), some (.getfield 52, 3, 4, 4), none, none, some (.iconst 2, 1, 0, 0), some (.isub, 1, 0, 0), some (.istore_n 1, 1, 0, 0), some (.iload_n 1, 1, 0, 0), some (.ifCond .lt 26, 3, 34, 0), none, none, some (.aload_n 0, 1, 0, 0), some (.getfield 29, 3, 203, 4), none, none, some (.iload_n 1, 1, 0, 0), some (.iaload, 1, 0, 0), some (.aload_n 0, 1, 0, 0), some (.getfield 29, 3, 203, 4), none, none, some (.iload_n 1, 1, 0, 0), some (.iconst 1, 1, 0, 0), some (.iadd, 1, 0, 0), some (.iaload, 1, 0, 0), some (.if_icmp .le 9, 3, 34, 0), none, none, some (.iinc 1 (-1), 3, 0, 0), none, none, some (.goto (-24), 3, 7, 0), none, none, some (.iload_n 1, 1, 0, 0), some (.ifCond .ge 5, 3, 40, 0), none, none, some (.iconst 0, 1, 0, 0), some (.ireturn, 1, 0, 1), some (.aload_n 0, 1, 0, 0), some (.getfield 52, 3, 4, 4), none, none, some (.iconst 1, 1, 0, 0), some (.isub, 1, 0, 0), some (.istore_n 2, 1, 0, 0), some (.iload_n 2, 1, 0, 0), some (.iload_n 1, 1, 0, 0), some (.if_icmp .le 24, 3, 73, 0), none, none, some (.aload_n 0, 1, 0, 0), some (.getfield 29, 3, 203, 4), none, none, some (.iload_n 2, 1, 0, 0), some (.iaload, 1, 0, 0), some (.aload_n 0, 1, 0, 0), some (.getfield 29, 3, 203, 4), none, none, some (.iload_n 1, 1, 0, 0), some (.iaload, 1, 0, 0), some (.if_icmp .ge 9, 3, 73, 0), none, none, some (.iinc 2 (-1), 3, 0, 0), none, none, some (.goto (-23), 3, 47, 0), none, none, some (.aload_n 0, 1, 0, 0), some (.iload_n 1, 1, 0, 0), some (.iload_n 2, 1, 0, 0), some (.invokevirtual 89, 3, 40, 2), none, none, some (.iload_n 1, 1, 0, 0), some (.iconst 1, 1, 0, 0), some (.iadd, 1, 0, 0), some (.istore_n 3, 1, 0, 0), some (.aload_n 0, 1, 0, 0), some (.getfield 52, 3, 4, 4), none, none, some (.iconst 1, 1, 0, 0), some (.isub, 1, 0, 0), some (.istore 4, 2, 0, 0), none, some (.iload_n 3, 1, 0, 0), some (.iload 4, 2, 0, 0), none, some (.if_icmp .ge 19, 3, 113, 0), none, none, some (.aload_n 0, 1, 0, 0), some (.iload_n 3, 1, 0, 0), some (.iload 4, 2, 0, 0), none, some (.invokevirtual 89, 3, 40, 2), none, none, some (.iinc 3 1, 3, 0, 0), none, none, some (.iinc 4 (-1), 3, 0, 0), none, none, some (.goto (-19), 3, 91, 0), none, none, some (.iconst 1, 1, 0, 0), some (.ireturn, 1, 0, 1)]
def tb_X4_swap : List (Option m_E) := [some (.aload_n 0, 1, 0, 0), some (.getfield 29, 3, 203, 4), none, none, some (.iload_n 1, 1, 0, 0), some (.iaload, 1, 0, 0), some (.istore_n 3, 1, 0, 0), some (.aload_n 0, 1, 0, 0), some (.getfield 29, 3, 203, 4), none, none, some (.iload_n 1, 1, 0, 0), some (.aload_n 0, 1, 0, 0), some (.getfield 29, 3, 203, 4), none, none, some (.iload_n 2, 1, 0, 0), some (.iaload, 1, 0, 0), some (.iastore, 1, 0, 0), some (.aload_n 0, 1, 0, 0), some (.getfield 29, 3, 203, 4), none, none, some (.iload_n 2, 1, 0, 0), some (.iload_n 3, 1, 0, 0), some (.iastore, 1, 0, 0), some (.aload_n 0, 1, 0, 0), some (.getfield 25, 3, 202, 4), none, none, some (.iload_n 1, 1, 0, 0), some (.aaload, 1, 0, 0), some (.astore 4, 2, 0, 0), none, some (.aload_n 0, 1, 0, 0), some (.getfield 25, 3, 202, 4), none, none, some (.iload_n 1, 1, 0, 0), some (.aload_n 0, 1, 0, 0), some (.getfield 25, 3, 202, 4), none, none, some (.iload_n 2, 1, 0, 0), some (.aaload, 1, 0, 0), some (.aastore, 1, 0, 0), some (.aload_n 0, 1, 0, 0), some (.getfield 25, 3, 202, 4), none, none, some (.iload_n 2, 1, 0, 0), some (.aload 4, 2, 0, 0), none, some (.aastore, 1, 0, 0), some (.return_, 1, 0, 0)]
def tb_X5_init : List (Option m_E) := [some (.aload_n 0, 1, 0, 0), some (.invokespecial 3, 3, 9998, 0), none, none, some (.aload_n 0, 1, 0, 0), some (.sipush 160, 3, 0, 0), none, none, some (.newarray .int, 2, 0, 20), none, some (.putfield 9, 3, 200, 5), none, none, some (.aload_n 0, 1, 0, 0), some (.bipush 8, 2, 0, 0), none, some (.anewarray 15, 3, 0, 22), none, none, some (.putfield 17, 3, 202, 5), none, none, some (.aload_n 0, 1, 0, 0), some (.bipush 8, 2, 0, 0), none, some (.anewarray 21, 3, 0, 23), none, none, some (.putfield 23, 3, 204, 5), none, none, some (.aload_n 0, 1, 0, 0), some (.bipush 6, 2, 0, 0), none, some (.newarray .int, 2, 0, 20), none, some (.putfield 27, 3, 206, 5), none, none, some (.aload_n 0, 1, 0, 0), some (.bipush 20, 2, 0, 0), none, some (.anewarray 30, 3, 0, 24), none, none, some (.putfield 32, 3, 208, 5), none, none, some (.aload_n 0, 1, 0, 0), some (.iconst 5, 1, 0, 0), some (.anewarray 30, 3, 0, 24), none, none, some (.putfield 36, 3, 211, 5), none, none, some (.aload_n 0, 1, 0, 0), some (.new 39, 3, 0, 7), none, none, some (.dup, 1, 0, 0), some (.invokespecial 41, 3, 59, 0), none, none, some (.putfield 42, 3, 213, 5), none, none, some (.iconst 0, 1, 0, 0), some (.istore_n 1, 1, 0, 0), some (.iload_n 1, 1, 0, 0), some (.bipush 8, 2, 0, 0), none, some (.if_icmp .ge 22, 3, 94, 0), none, none, some (.aload_n 0, 1, 0, 0), some (.getfield 23, 3, 204, 5), none, none, some (.iload_n 1, 1, 0, 0), some (.new 21, 3, 0, 0), none, none, some (.dup, 1, 0, 0), some (.invokespecial 46, 3, 0, 0), none, none, some (.aastore, 1, 0, 0), some (.iinc 1 1, 3, 0, 0), none, none, some (.goto (-22), 3, 69, 0), none, none, some (.return_, 1, 0, 0)]
def tb_X5_become : List (Option m_E) := [some (.aload_n 1, 1, 0, 0), some (.getfield 9, 3, 200, 5), none, none, some (.iconst 0, 1, 0, 0), some (.aload_n 0, 1, 0, 0), some (.getfield 9, 3, 200, 5), none, none, some (.iconst 0, 1, 0, 0), some (.sipush 160, 3, 0, 0), none, none, some (.invokestatic 47, 3, 9999, 0), none, none, some (.aload_n 0, 1, 0, 0), some (.aload_n 1, 1, 0, 0), some (.getfield 53, 3, 1, 5), none, none, some (.putfield 53, 3, 1, 5), none, none, some (.iconst 0, 1, 0, 0), some (.istore_n 2, 1, 0, 0), some (.iload_n 2, 1, 0, 0), some (.bipush 8, 2, 0, 0), none, some (.if_icmp .ge 21, 3, 50, 0), none, none, some (.aload_n 0, 1, 0, 0), some (.getfield 17, 3, 202, 5), none, none, some (.iload_n 2, 1, 0, 0), some (.aload_n 1, 1, 0, 0), some (.getfield 17, 3, 202, 5), none, none, some (.iload_n 2, 1, 0, 0), some (.aaload, 1, 0, 0), some (.aastore, 1, 0, 0), some (.iinc 2 1, 3, 0, 0), none, none, some (.goto (-21), 3, 26, 0), none, none, some (.aload_n 0, 1, 0, 0), some (.aload_n 1, 1, 0, 0), some (.getfield 57, 3, 3, 5), none, none, some (.putfield 57, 3, 3, 5), none, none, some (.iconst 0, 1, 0, 0), some (.istore_n 2, 1, 0, 0), some (.iload_n 2, 1, 0, 0), some (.bipush 8, 2, 0, 0), none, some (.if_icmp .ge 24, 3, 87, 0), none, none, some (.aload_n 0, 1, 0, 0), some (.getfield 23, 3, 204, 5), none, none, some (.iload_n 2, 1, 0, 0), some (.aaload, 1, 0, 0), some (.aload_n 1, 1, 0, 0), some (.getfield 23, 3, 204, 5), none, none, some (.iload_n 2, 1, 0, 0), some (.aaload, 1, 0, 0), some (.invokevirtual 60, 3, 2, 1), none, none, some (.iinc 2 1, 3, 0, 0), none, none, some (.goto (-24), 3, 60, 0), none, none, some (.aload_n 0, 1, 0, 0), some (.aload_n 1, 1, 0, 0), some (.getfield 64, 3, 5, 5), none, none, some (.putfield 64, 3, 5, 5), none, none, some (.aload_n 1, 1, 0, 0), some (.getfield 27, 3, 206, 5), none, none, some (.iconst 0, 1, 0, 0), some (.aload_n 0, 1, 0, 0), some (.getfield 27, 3, 206, 5), none, none, some (.iconst 0, 1, 0, 0), some (.bipush 6, 2, 0, 0), none, some (.invokestatic 47, 3, 9999, 0), none, none, some (.aload_n 0, 1, 0, 0), some (.aload_n 1, 1, 0, 0), some (.getfield 67, 3, 7, 5), none, none, some (.putfield 67, 3, 7, 5), none, none, some (.iconst 0, 1, 0, 0), some (.istore_n 2, 1, 0, 0), some (.iload_n 2, 1, 0, 0), some (.bipush 20, 2, 0, 0), none, some (.if_icmp .ge 21, 3, 144, 0), none, none, some (.aload_n 0, 1, 0, 0), some (.getfield 32, 3, 208, 5), none, none, some (.iload_n 2, 1, 0, 0), some (.aload_n 1, 1, 0, 0), some (.getfield 32, 3, 208, 5), none, none, some (.iload_n 2, 1, 0, 0), some (.aaload, 1, 0, 0), some (.aastore, 1, 0, 0), some (.iinc 2 1, 3, 0, 0), none, none, some (.goto (-21), 3, 120, 0), none, none, some (.aload_n 0, 1, 0, 0), some (.aload_n 1, 1, 0, 0), some (.getfield 70, 3, 9, 5), none, none, some (.putfield 70, 3, 9, 5), none, none, some (.aload_n 0, 1, 0, 0), some (.aload_n 1, 1, 0, 0), some (.getfield 73, 3, 10, 5), none, none, some (.putfield 73, 3, 10, 5), none, none, some (.iconst 0, 1, 0, 0), some (.istore_n 2, 1, 0, 0), some (.iload_n 2, 1, 0, 0), some (.iconst 5, 1, 0, 0), some (.if_icmp .ge 21, 3, 185, 0), none, none, some (.aload_n 0, 1, 0, 0), some (.getfield 36, 3, 211, 5), none, none, some (.iload_n 2, 1, 0, 0), some (.aload_n 1, 1, 0, 0), some (.getfield 36, 3, 211, 5), none, none, some (.iload_n 2, 1, 0, 0), some (.aaload, 1, 0, 0), some (.aastore, 1, 0, 0), some (.iinc 2 1, 3, 0, 0), none, none, some (.goto (-20), 3, 162, 0), none, none, some (.aload_n 0, 1, 0, 0), some (.aload_n 1, 1, 0, 0), some (.getfield 76, 3, 12, 5), none, none, some (.putfield 76, 3, 12, 5), none, none, some (.aload_n 0, 1, 0, 0), some (.getfield 42, 3, 213, 5), none, none, some (.aload_n 1, 1, 0, 0), some (.getfield 42, 3, 213, 5), none, none, some (.invokevirtual 79, 3, 60, 1), none, none, some (.return_, 1, 0, 0)]
def tb_X5_textAt : List (Option m_E) := [some (.iload_n 1, 1, 0, 0), some (.ifCond .lt 20, 3, 21, 0), none, none, some (.iload_n 1, 1, 0, 0), some (.aload_n 0, 1, 0, 0), some (.getfield 57, 3, 3, 5), none, none, some (.if_icmp .ge 12, 3, 21, 0), none, none, some (.aload_n 0, 1, 0, 0), some (.getfield 17, 3, 202, 5), none, none, some (.iload_n 1, 1, 0, 0), some (.aaload, 1, 0, 0), some (.goto 4, 3, 22, 0), none, none, some (.aconst_null, 1, 0, 0), some (.areturn, 1, 0, 0)]
def tb_X5_boxAt : List (Option m_E) := [some (.iload_n 1, 1, 0, 0), some (.ifCond .lt 20, 3, 21, 0), none, none, some (.iload_n 1, 1, 0, 0), some (.aload_n 0, 1, 0, 0), some (.getfield 64, 3, 5, 5), none, none, some (.if_icmp .ge 12, 3, 21, 0), none, none, some (.aload_n 0, 1, 0, 0), some (.getfield 23, 3, 204, 5), none, none, some (.iload_n 1, 1, 0, 0), some (.aaload, 1, 0, 0), some (.goto 4, 3, 22, 0), none, none, some (.aconst_null, 1, 0, 0), some (.areturn, 1, 0, 0)]
def tb_X5_isInRow : List (Option m_E) := [some (.iconst 0, 1, 0, 0), some (.istore_n 2, 1, 0, 0), some (.iload_n 2, 1, 0, 0), some (.aload_n 0, 1, 0, 0), some (.getfield 67, 3, 7, 5), none, none, some (.if_icmp .ge 21, 3, 28, 0), none, none, some (.aload_n 0, 1, 0, 0), some (.getfield 27, 3, 206, 5), none, none, some (.iload_n 2, 1, 0, 0), some (.iaload, 1, 0, 0), some (.iload_n 1, 1, 0, 0), some (.if_icmp .ne 5, 3, 22, 0), none, none, some (.iconst 1, 1, 0, 0), some (.ireturn, 1, 0, 1), some (.iinc 2 1, 3, 0, 0), none, none, some (.goto (-23), 3, 2, 0), none, none, some (.iconst 0, 1, 0, 0), some (.ireturn, 1, 0, 1)]
def tb_X5_isLedToByAnother : List (Option m_E) := [some (.iconst 0, 1, 0, 0), some (.istore_n 2, 1, 0, 0), some (.iload_n 2, 1, 0, 0), some (.aload_n 0, 1, 0, 0), some (.getfield 64, 3, 5, 5), none, none, some (.if_icmp .ge 29, 3, 36, 0), none, none, some (.iload_n 2, 1, 0, 0), some (.iload_n 1, 1, 0, 0), some (.if_icmp .eq 18, 3, 30, 0), none, none, some (.aload_n 0, 1, 0, 0), some (.getfield 23, 3, 204, 5), none, none, some (.iload_n 2, 1, 0, 0), some (.aaload, 1, 0, 0), some (.iload_n 1, 1, 0, 0), some (.invokevirtual 82, 3, 5, 1), none, none, some (.ifCond .eq 5, 3, 30, 0), none, none, some (.iconst 1, 1, 0, 0), some (.ireturn, 1, 0, 1), some (.iinc 2 1, 3, 0, 0), none, none, some (.goto (-31), 3, 2, 0), none, none, some (.iconst 0, 1, 0, 0), some (.ireturn, 1, 0, 1)]
def tb_X5_passAlong : List (Option m_E) := [some (.aload_n 1, 1, 0, 0), some (.ifnonnull 6, 3, 7, 0), none, none, some (.bipush (-3), 2, 0, 0), none, some (.ireturn, 1, 0, 0), some (.iconst 0, 1, 0, 0), some (.istore_n 2, 1, 0, 0), some (.iload_n 2, 1, 0, 0), some (.aload_n 0, 1, 0, 0), some (.getfield 67, 3, 7, 5), none, none, some (.if_icmp .ge 82, 3, 96, 0), none, none, some (.aload_n 0, 1, 0, 0), some (.aload_n 0, 1, 0, 0), some (.getfield 27, 3, 206, 5), none, none, some (.iload_n 2, 1, 0, 0), some (.iaload, 1, 0, 0), some (.invokevirtual 86, 3, 44, 1), none, none, some (.astore_n 3, 1, 0, 0), some (.aload_n 3, 1, 0, 0), some (.ifnonnull 7, 3, 36, 0), none, none, some (.aconst_null, 1, 0, 0), some (.goto 16, 3, 49, 0), none, none, some (.aload_n 0, 1, 0, 0), some (.aload_n 3, 1, 0, 0), some (.getfield 90, 3, 205, 0), none, none, some (.aload_n 1, 1, 0, 0), some (.getfield 93, 3, 0, 2), none, none, some (.iaload, 1, 0, 0), some (.invokevirtual 86, 3, 44, 1), none, none, some (.astore 4, 2, 0, 0), none, some (.aload 4, 2, 0, 0), none, some (.ifnonnull 6, 3, 59, 0), none, none, some (.goto 34, 3, 90, 0), none, none, some (.aload 4, 2, 0, 0), none, some (.aload_n 1, 1, 0, 0), some (.aload_n 0, 1, 0, 0), some (.aload 4, 2, 0, 0), none, some (.getfield 96, 3, 2, 0), none, none, some (.invokevirtual 99, 3, 43, 1), none, none, some (.invokevirtual 103, 3, 3, 2), none, none, some (.istore 5, 2, 0, 0), none, some (.iload 5, 2, 0, 0), none, some (.iconst 1, 1, 0, 0), some (.if_icmp .eq 11, 3, 90, 0), none, none, some (.bipush 10, 2, 0, 0), none, some (.iload_n 2, 1, 0, 0), some (.imul, 1, 0, 0), some (.iload 5, 2, 0, 0), none, some (.iadd, 1, 0, 0), some (.ireturn, 1, 0, 0), some (.iinc 2 1, 3, 0, 0), none, none, some (.goto (-84), 3, 9, 0), none, none, some (.bipush 10, 2, 0, 0), none, some (.aload_n 0, 1, 0, 0), some (.getfield 67, 3, 7, 5), none, none, some (.imul, 1, 0, 0), some (.iconst 1, 1, 0, 0), some (.iadd, 1, 0, 0), some (.ireturn, 1, 0, 0)]
def tb_X6_init : List (Option m_E) := [some (.aload_n 0, 1, 0, 0), some (.invokespecial 3, 3, 9998, 0), none, none, some (.aload_n 0, 1, 0, 0), some (.bipush 8, 2, 0, 0), none, some (.newarray .int, 2, 0, 20), none, some (.putfield 9, 3, 201, 6), none, none, some (.aload_n 0, 1, 0, 0), some (.bipush 8, 2, 0, 0), none, some (.newarray .int, 2, 0, 20), none, some (.putfield 15, 3, 202, 6), none, none, some (.aload_n 0, 1, 0, 0), some (.bipush 8, 2, 0, 0), none, some (.newarray .int, 2, 0, 20), none, some (.putfield 18, 3, 203, 6), none, none, some (.aload_n 0, 1, 0, 0), some (.bipush 8, 2, 0, 0), none, some (.newarray .int, 2, 0, 20), none, some (.putfield 21, 3, 204, 6), none, none, some (.aload_n 0, 1, 0, 0), some (.sipush 160, 3, 0, 0), none, none, some (.newarray .int, 2, 0, 20), none, some (.putfield 24, 3, 205, 6), none, none, some (.aload_n 0, 1, 0, 0), some (.bipush 8, 2, 0, 0), none, some (.newarray .int, 2, 0, 20), none, some (.putfield 27, 3, 208, 6), none, none, some (.return_, 1, 0, 0)]
def tb_X6_clear : List (Option m_E) := [some (.aload_n 0, 1, 0, 0), some (.iconst 0, 1, 0, 0), some (.putfield 30, 3, 0, 6), none, none, some (.aload_n 0, 1, 0, 0), some (.iconst 0, 1, 0, 0), some (.putfield 34, 3, 6, 6), none, none, some (.aload_n 0, 1, 0, 0), some (.iconst 0, 1, 0, 0), some (.putfield 37, 3, 7, 6), none, none, some (.aload_n 0, 1, 0, 0), some (.getfield 27, 3, 208, 6), none, none, some (.bipush (-5), 2, 0, 0), none, some (.invokestatic 40, 3, 180, 2), none, none, some (.return_, 1, 0, 0)]
def tb_X6_add : List (Option m_E) := [some (.aload_n 0, 1, 0, 0), some (.getfield 34, 3, 6, 6), none, none, some (.sipush 160, 3, 0, 0), none, none, some (.if_icmp .lt 4, 3, 11, 0), none, none, some (.return_, 1, 0, 0), some (.aload_n 0, 1, 0, 0), some (.getfield 24, 3, 205, 6), none, none, some (.aload_n 0, 1, 0, 0), some (.getfield 34, 3, 6, 6), none, none, some (.iload_n 1, 1, 0, 0), some (.iastore, 1, 0, 0), some (.aload_n 0, 1, 0, 0), some (.dup, 1, 0, 0), some (.getfield 34, 3, 6, 6), none, none, some (.iconst 1, 1, 0, 0), some (.iadd, 1, 0, 0), some (.putfield 34, 3, 6, 6), none, none, some (.return_, 1, 0, 0)]
def tb_X6_countTerms : List (Option m_E) := [some (.iload_n 1, 1, 0, 0), some (.ifCond .lt 18, 3, 19, 0), none, none, some (.iload_n 1, 1, 0, 0), some (.aload_n 0, 1, 0, 0), some (.getfield 34, 3, 6, 6), none, none, some (.if_icmp .ge 10, 3, 19, 0), none, none, some (.aload_n 0, 1, 0, 0), some (.getfield 24, 3, 205, 6), none, none, some (.iload_n 1, 1, 0, 0), some (.iload_n 2, 1, 0, 0), some (.iastore, 1, 0, 0), some (.return_, 1, 0, 0)]
def tb_X6_signAt : List (Option m_E) := [some (.iload_n 1, 1, 0, 0), some (.ifCond .lt 20, 3, 21, 0), none, none, some (.iload_n 1, 1, 0, 0), some (.aload_n 0, 1, 0, 0), some (.getfield 34, 3, 6, 6), none, none, some (.if_icmp .ge 12, 3, 21, 0), none, none, some (.aload_n 0, 1, 0, 0), some (.getfield 24, 3, 205, 6), none, none, some (.iload_n 1, 1, 0, 0), some (.iaload, 1, 0, 0), some (.goto 4, 3, 22, 0), none, none, some (.iconst 0, 1, 0, 0), some (.ireturn, 1, 0, 0)]
def tb_X6_note : List (Option m_E) := [some (.iload_n 1, 1, 0, 0), some (.bipush 104, 2, 0, 0), none, some (.isub, 1, 0, 0), some (.iconst 4, 1, 0, 0), some (.isub, 1, 0, 0), some (.istore_n 3, 1, 0, 0), some (.iload_n 3, 1, 0, 0), some (.ifCond .lt 9, 3, 17, 0), none, none, some (.iload_n 3, 1, 0, 0), some (.bipush 8, 2, 0, 0), none, some (.if_icmp .lt 4, 3, 18, 0), none, none, some (.return_, 1, 0, 0), some (.aload_n 0, 1, 0, 0), some (.dup, 1, 0, 0), some (.getfield 37, 3, 7, 6), none, none, some (.iconst 1, 1, 0, 0), some (.iload_n 3, 1, 0, 0), some (.ishl, 1, 0, 0), some (.ior, 1, 0, 0), some (.putfield 37, 3, 7, 6), none, none, some (.iload_n 2, 1, 0, 0), some (.ifCond .ne 26, 3, 57, 0), none, none, some (.aload_n 0, 1, 0, 0), some (.getfield 27, 3, 208, 6), none, none, some (.iload_n 3, 1, 0, 0), some (.iaload, 1, 0, 0), some (.bipush (-5), 2, 0, 0), none, some (.if_icmp .ne 15, 3, 57, 0), none, none, some (.aload_n 0, 1, 0, 0), some (.getfield 27, 3, 208, 6), none, none, some (.iload_n 3, 1, 0, 0), some (.aload_n 0, 1, 0, 0), some (.getfield 30, 3, 0, 6), none, none, some (.iconst 1, 1, 0, 0), some (.isub, 1, 0, 0), some (.iastore, 1, 0, 0), some (.return_, 1, 0, 0)]
def tb_X6_lineFor : List (Option m_E) := [some (.iconst 0, 1, 0, 0), some (.istore_n 3, 1, 0, 0), some (.iload_n 3, 1, 0, 0), some (.aload_n 0, 1, 0, 0), some (.getfield 30, 3, 0, 6), none, none, some (.if_icmp .ge 56, 3, 63, 0), none, none, some (.aload_n 0, 1, 0, 0), some (.getfield 9, 3, 201, 6), none, none, some (.iload_n 3, 1, 0, 0), some (.iaload, 1, 0, 0), some (.iconst 4, 1, 0, 0), some (.if_icmp .eq 16, 3, 33, 0), none, none, some (.aload_n 0, 1, 0, 0), some (.getfield 9, 3, 201, 6), none, none, some (.iload_n 3, 1, 0, 0), some (.iaload, 1, 0, 0), some (.aload_n 1, 1, 0, 0), some (.getfield 46, 3, 2, 2), none, none, some (.if_icmp .ne 7, 3, 37, 0), none, none, some (.iconst 1, 1, 0, 0), some (.goto 4, 3, 38, 0), none, none, some (.iconst 0, 1, 0, 0), some (.istore 4, 2, 0, 0), none, some (.iload 4, 2, 0, 0), none, some (.ifCond .eq 15, 3, 57, 0), none, none, some (.aload_n 0, 1, 0, 0), some (.iload_n 3, 1, 0, 0), some (.aload_n 1, 1, 0, 0), some (.aload_n 2, 1, 0, 0), some (.invokevirtual 51, 3, 55, 3), none, none, some (.ifCond .eq 5, 3, 57, 0), none, none, some (.iload_n 3, 1, 0, 0), some (.ireturn, 1, 0, 0), some (.iinc 3 1, 3, 0, 0), none, none, some (.goto (-58), 3, 2, 0), none, none, some (.bipush (-5), 2, 0, 0), none, some (.ireturn, 1, 0, 0)]
def tb_X6_holds : List (Option m_E) := [some (.iconst 1, 1, 0, 0), some (.istore 4, 2, 0, 0), none, some (.aload_n 0, 1, 0, 0), some (.getfield 15, 3, 202, 6), none, none, some (.iload_n 1, 1, 0, 0), some (.iaload, 1, 0, 0), some (.istore 5, 2, 0, 0), none, some (.iload 5, 2, 0, 0), none, some (.aload_n 0, 1, 0, 0), some (.getfield 18, 3, 203, 6), none, none, some (.iload_n 1, 1, 0, 0), some (.iaload, 1, 0, 0), some (.if_icmp .ge 206, 3, 225, 0), none, none, some (.aload_n 0, 1, 0, 0), some (.iload 5, 2, 0, 0), none, some (.invokevirtual 55, 3, 52, 1), none, none, some (.istore 6, 2, 0, 0), none, some (.iinc 5 1, 3, 0, 0), none, none, some (.iload 6, 2, 0, 0), none, some (.bipush 123, 2, 0, 0), none, some (.if_icmp .ne 12, 3, 49, 0), none, none, some (.iload 4, 2, 0, 0), none, some (.iconst 1, 1, 0, 0), some (.ixor, 1, 0, 0), some (.istore 4, 2, 0, 0), none, some (.goto 176, 3, 222, 0), none, none, some (.iload 6, 2, 0, 0), none, some (.bipush 124, 2, 0, 0), none, some (.if_icmp .ne 30, 3, 83, 0), none, none, some (.iload 4, 2, 0, 0), none, some (.iconst 1, 1, 0, 0), some (.iand, 1, 0, 0), some (.iconst 1, 1, 0, 0), some (.if_icmp .ne 10, 3, 71, 0), none, none, some (.iload 4, 2, 0, 0), none, some (.iconst 1, 1, 0, 0), some (.ishr, 1, 0, 0), some (.goto 10, 3, 78, 0), none, none, some (.iload 4, 2, 0, 0), none, some (.iconst 1, 1, 0, 0), some (.ishr, 1, 0, 0), some (.bipush (-2), 2, 0, 0), none, some (.iand, 1, 0, 0), some (.istore 4, 2, 0, 0), none, some (.goto 142, 3, 222, 0), none, none, some (.iload 6, 2, 0, 0), none, some (.bipush 125, 2, 0, 0), none, some (.if_icmp .ne 29, 3, 116, 0), none, none, some (.iload 4, 2, 0, 0), none, some (.iconst 1, 1, 0, 0), some (.iand, 1, 0, 0), some (.iconst 1, 1, 0, 0), some (.if_icmp .ne 12, 3, 107, 0), none, none, some (.iload 4, 2, 0, 0), none, some (.iconst 1, 1, 0, 0), some (.ishr, 1, 0, 0), some (.iconst 1, 1, 0, 0), some (.ior, 1, 0, 0), some (.goto 7, 3, 111, 0), none, none, some (.iload 4, 2, 0, 0), none, some (.iconst 1, 1, 0, 0), some (.ishr, 1, 0, 0), some (.istore 4, 2, 0, 0), none, some (.goto 109, 3, 222, 0), none, none, some (.aload_n 0, 1, 0, 0), some (.iload 5, 2, 0, 0), none, some (.invokevirtual 55, 3, 52, 1), none, none, some (.aload_n 2, 1, 0, 0), some (.aload_n 3, 1, 0, 0), some (.invokestatic 59, 3, 58, 3), none, none, some (.istore 7, 2, 0, 0), none, some (.aload_n 0, 1, 0, 0), some (.iload 5, 2, 0, 0), none, some (.iconst 1, 1, 0, 0), some (.iadd, 1, 0, 0), some (.invokevirtual 55, 3, 52, 1), none, none, some (.aload_n 2, 1, 0, 0), some (.aload_n 3, 1, 0, 0), some (.invokestatic 59, 3, 58, 3), none, none, some (.istore 8, 2, 0, 0), none, some (.iload 6, 2, 0, 0), none, some (.bipush 120, 2, 0, 0), none, some (.if_icmp .ne 18, 3, 166, 0), none, none, some (.iload 7, 2, 0, 0), none, some (.iload 8, 2, 0, 0), none, some (.if_icmp .ge 7, 3, 162, 0), none, none, some (.iconst 1, 1, 0, 0), some (.goto 41, 3, 200, 0), none, none, some (.iconst 0, 1, 0, 0), some (.goto 37, 3, 200, 0), none, none, some (.iload 6, 2, 0, 0), none, some (.bipush 121, 2, 0, 0), none, some (.if_icmp .ne 18, 3, 188, 0), none, none, some (.iload 7, 2, 0, 0), none, some (.iload 8, 2, 0, 0), none, some (.if_icmp .ne 7, 3, 184, 0), none, none, some (.iconst 1, 1, 0, 0), some (.goto 19, 3, 200, 0), none, none, some (.iconst 0, 1, 0, 0), some (.goto 15, 3, 200, 0), none, none, some (.iload 7, 2, 0, 0), none, some (.iload 8, 2, 0, 0), none, some (.if_icmp .le 7, 3, 199, 0), none, none, some (.iconst 1, 1, 0, 0), some (.goto 4, 3, 200, 0), none, none, some (.iconst 0, 1, 0, 0), some (.istore 9, 2, 0, 0), none, some (.iload 4, 2, 0, 0), none, some (.iconst 1, 1, 0, 0), some (.ishl, 1, 0, 0), some (.iload 9, 2, 0, 0), none, some (.ifCond .eq 7, 3, 215, 0), none, none, some (.iconst 1, 1, 0, 0), some (.goto 4, 3, 216, 0), none, none, some (.iconst 0, 1, 0, 0), some (.ior, 1, 0, 0), some (.istore 4, 2, 0, 0), none, some (.iinc 5 2, 3, 0, 0), none, none, some (.goto (-211), 3, 11, 0), none, none, some (.iload 4, 2, 0, 0), none, some (.iconst 1, 1, 0, 0), some (.iand, 1, 0, 0), some (.iconst 1, 1, 0, 0), some (.if_icmp .ne 7, 3, 237, 0), none, none, some (.iconst 1, 1, 0, 0), some (.goto 4, 3, 238, 0), none, none, some (.iconst 0, 1, 0, 0), some (.ireturn, 1, 0, 1)]
def tb_X6_does : List (Option m_E) := [some (.iload_n 1, 1, 0, 0), some (.ifCond .lt 11, 3, 12, 0), none, none, some (.iload_n 1, 1, 0, 0), some (.aload_n 0, 1, 0, 0), some (.getfield 30, 3, 0, 6), none, none, some (.if_icmp .lt 5, 3, 14, 0), none, none, some (.iconst 1, 1, 0, 0), some (.ireturn, 1, 0, 0), some (.aload_n 0, 1, 0, 0), some (.getfield 18, 3, 203, 6), none, none, some (.iload_n 1, 1, 0, 0), some (.iaload, 1, 0, 0), some (.istore 4, 2, 0, 0), none, some (.iconst 0, 1, 0, 0), some (.istore 5, 2, 0, 0), none, some (.iload 5, 2, 0, 0), none, some (.aload_n 0, 1, 0, 0), some (.getfield 21, 3, 204, 6), none, none, some (.iload_n 1, 1, 0, 0), some (.iaload, 1, 0, 0), some (.if_icmp .ge 108, 3, 141, 0), none, none, some (.aload_n 0, 1, 0, 0), some (.iload 4, 2, 0, 0), none, some (.invokevirtual 55, 3, 52, 1), none, none, some (.istore 6, 2, 0, 0), none, some (.iload 6, 2, 0, 0), none, some (.bipush 126, 2, 0, 0), none, some (.if_icmp .ne 5, 3, 53, 0), none, none, some (.iconst 1, 1, 0, 0), some (.ireturn, 1, 0, 0), some (.iload 6, 2, 0, 0), none, some (.bipush 127, 2, 0, 0), none, some (.if_icmp .ne 5, 3, 62, 0), none, none, some (.iconst 0, 1, 0, 0), some (.ireturn, 1, 0, 0), some (.iload 6, 2, 0, 0), none, some (.sipush 128, 3, 0, 0), none, none, some (.if_icmp .ne 13, 3, 80, 0), none, none, some (.aload_n 3, 1, 0, 0), some (.aload_n 2, 1, 0, 0), some (.getfield 63, 3, 0, 2), none, none, some (.invokevirtual 66, 3, 11, 1), none, none, some (.iconst 2, 1, 0, 0), some (.ireturn, 1, 0, 0), some (.aload_n 0, 1, 0, 0), some (.iload 4, 2, 0, 0), none, some (.iconst 1, 1, 0, 0), some (.iadd, 1, 0, 0), some (.invokevirtual 55, 3, 52, 1), none, none, some (.istore 7, 2, 0, 0), none, some (.aload_n 0, 1, 0, 0), some (.iload 4, 2, 0, 0), none, some (.iconst 2, 1, 0, 0), some (.iadd, 1, 0, 0), some (.iload 7, 2, 0, 0), none, some (.aload_n 2, 1, 0, 0), some (.aload_n 3, 1, 0, 0), some (.invokevirtual 72, 3, 57, 4), none, none, some (.istore 8, 2, 0, 0), none, some (.aload_n 3, 1, 0, 0), some (.iload 6, 2, 0, 0), none, some (.bipush 104, 2, 0, 0), none, some (.isub, 1, 0, 0), some (.aload_n 2, 1, 0, 0), some (.getfield 63, 3, 0, 2), none, none, some (.aload_n 2, 1, 0, 0), some (.getfield 76, 3, 1, 2), none, none, some (.invokestatic 79, 3, 103, 3), none, none, some (.iload 8, 2, 0, 0), none, some (.invokevirtual 83, 3, 10, 2), none, none, some (.iload 4, 2, 0, 0), none, some (.iconst 2, 1, 0, 0), some (.iload 7, 2, 0, 0), none, some (.iadd, 1, 0, 0), some (.iadd, 1, 0, 0), some (.istore 4, 2, 0, 0), none, some (.iinc 5 1, 3, 0, 0), none, none, some (.goto (-113), 3, 25, 0), none, none, some (.iconst 1, 1, 0, 0), some (.ireturn, 1, 0, 0)]
def tb_X6_sumOf : List (Option m_E) := [some (.iconst 0, 1, 0, 0), some (.istore 5, 2, 0, 0), none, some (.iload_n 1, 1, 0, 0), some (.istore 6, 2, 0, 0), none, some (.iload 6, 2, 0, 0), none, some (.iload_n 1, 1, 0, 0), some (.iload_n 2, 1, 0, 0), some (.iadd, 1, 0, 0), some (.if_icmp .ge 58, 3, 69, 0), none, none, some (.aload_n 0, 1, 0, 0), some (.iload 6, 2, 0, 0), none, some (.invokevirtual 55, 3, 52, 1), none, none, some (.istore 7, 2, 0, 0), none, some (.iload 7, 2, 0, 0), none, some (.sipush 256, 3, 0, 0), none, none, some (.if_icmp .lt 23, 3, 50, 0), none, none, some (.iload 5, 2, 0, 0), none, some (.iload 7, 2, 0, 0), none, some (.sipush 256, 3, 0, 0), none, none, some (.isub, 1, 0, 0), some (.aload_n 3, 1, 0, 0), some (.aload 4, 2, 0, 0), none, some (.invokestatic 59, 3, 58, 3), none, none, some (.isub, 1, 0, 0), some (.istore 5, 2, 0, 0), none, some (.goto 16, 3, 63, 0), none, none, some (.iload 5, 2, 0, 0), none, some (.iload 7, 2, 0, 0), none, some (.aload_n 3, 1, 0, 0), some (.aload 4, 2, 0, 0), none, some (.invokestatic 59, 3, 58, 3), none, none, some (.iadd, 1, 0, 0), some (.istore 5, 2, 0, 0), none, some (.iinc 6 1, 3, 0, 0), none, none, some (.goto (-60), 3, 6, 0), none, none, some (.iload 5, 2, 0, 0), none, some (.ireturn, 1, 0, 0)]
def tb_X6_value : List (Option m_E) := [some (.iload_n 0, 1, 0, 0), some (.bipush 100, 2, 0, 0), none, some (.if_icmp .ge 5, 3, 8, 0), none, none, some (.iload_n 0, 1, 0, 0), some (.ireturn, 1, 0, 0), some (.iload_n 0, 1, 0, 0), some (.bipush 100, 2, 0, 0), none, some (.if_icmp .ne 8, 3, 19, 0), none, none, some (.aload_n 1, 1, 0, 0), some (.getfield 46, 3, 2, 2), none, none, some (.ireturn, 1, 0, 0), some (.iload_n 0, 1, 0, 0), some (.bipush 101, 2, 0, 0), none, some (.if_icmp .ne 8, 3, 30, 0), none, none, some (.aload_n 1, 1, 0, 0), some (.getfield 76, 3, 1, 2), none, none, some (.ireturn, 1, 0, 0), some (.iload_n 0, 1, 0, 0), some (.bipush 102, 2, 0, 0), none, some (.if_icmp .ne 8, 3, 41, 0), none, none, some (.aload_n 1, 1, 0, 0), some (.getfield 87, 3, 3, 2), none, none, some (.ireturn, 1, 0, 0), some (.aload_n 2, 1, 0, 0), some (.iload_n 0, 1, 0, 0), some (.bipush 104, 2, 0, 0), none, some (.isub, 1, 0, 0), some (.aload_n 1, 1, 0, 0), some (.getfield 63, 3, 0, 2), none, none, some (.aload_n 1, 1, 0, 0), some (.getfield 76, 3, 1, 2), none, none, some (.invokestatic 79, 3, 103, 3), none, none, some (.invokevirtual 90, 3, 9, 1), none, none, some (.ireturn, 1, 0, 0)]
def tb_X7_init : List (Option m_E) := [some (.aload_n 0, 1, 0, 0), some (.invokespecial 3, 3, 9998, 0), none, none, some (.aload_n 0, 1, 0, 0), some (.bipush 20, 2, 0, 0), none, some (.newarray .int, 2, 0, 20), none, some (.putfield 9, 3, 200, 7), none, none, some (.return_, 1, 0, 0)]
def tb_X7_become : List (Option m_E) := [some (.aload_n 1, 1, 0, 0), some (.getfield 9, 3, 200, 7), none, none, some (.iconst 0, 1, 0, 0), some (.aload_n 0, 1, 0, 0), some (.getfield 9, 3, 200, 7), none, none, some (.iconst 0, 1, 0, 0), some (.bipush 20, 2, 0, 0), none, some (.invokestatic 15, 3, 9999, 0), none, none, some (.aload_n 0, 1, 0, 0), some (.aload_n 1, 1, 0, 0), some (.getfield 21, 3, 1, 7), none, none, some (.putfield 21, 3, 1, 7), none, none, some (.return_, 1, 0, 0)]
def tb_X7_runs : List (Option m_E) := [some (.aload_n 0, 1, 0, 0), some (.aload_n 1, 1, 0, 0), some (.getfield 25, 3, 1, 0), none, none, some (.putfield 30, 3, 2, 7), none, none, some (.aload_n 0, 1, 0, 0), some (.aload_n 1, 1, 0, 0), some (.getfield 33, 3, 0, 0), none, none, some (.putfield 36, 3, 3, 7), none, none, some (.aload_n 0, 1, 0, 0), some (.iload_n 2, 1, 0, 0), some (.putfield 37, 3, 4, 7), none, none, some (.aload_n 0, 1, 0, 0), some (.aload_n 0, 1, 0, 0), some (.getfield 30, 3, 2, 7), none, none, some (.iload_n 3, 1, 0, 0), some (.iload 4, 2, 0, 0), none, some (.iconst 0, 1, 0, 0), some (.invokevirtual 40, 3, 62, 4), none, none, some (.ireturn, 1, 0, 0)]
def tb_X7_runsFrom : List (Option m_E) := [some (.iload_n 1, 1, 0, 0), some (.ifCond .lt 16, 3, 17, 0), none, none, some (.iload_n 1, 1, 0, 0), some (.bipush 7, 2, 0, 0), none, some (.if_icmp .ge 10, 3, 17, 0), none, none, some (.iload 4, 2, 0, 0), none, some (.bipush 20, 2, 0, 0), none, some (.if_icmp .le 5, 3, 19, 0), none, none, some (.iconst 0, 1, 0, 0), some (.ireturn, 1, 0, 0), some (.iload_n 1, 1, 0, 0), some (.istore 5, 2, 0, 0), none, some (.iconst 0, 1, 0, 0), some (.istore 6, 2, 0, 0), none, some (.iload 6, 2, 0, 0), none, some (.bipush 7, 2, 0, 0), none, some (.if_icmp .ge 38, 3, 67, 0), none, none, some (.iload 5, 2, 0, 0), none, some (.ifCond .le 33, 3, 67, 0), none, none, some (.getstatic 44, 3, 1, 1), none, none, some (.iload 5, 2, 0, 0), none, some (.iconst 3, 1, 0, 0), some (.imul, 1, 0, 0), some (.iload_n 2, 1, 0, 0), some (.iadd, 1, 0, 0), some (.iaload, 1, 0, 0), some (.ifCond .eq 6, 3, 53, 0), none, none, some (.goto 17, 3, 67, 0), none, none, some (.getstatic 47, 3, 1, 2), none, none, some (.iload 5, 2, 0, 0), none, some (.iaload, 1, 0, 0), some (.istore 5, 2, 0, 0), none, some (.iinc 6 1, 3, 0, 0), none, none, some (.goto (-39), 3, 25, 0), none, none, some (.getstatic 44, 3, 1, 1), none, none, some (.iload 5, 2, 0, 0), none, some (.iconst 3, 1, 0, 0), some (.imul, 1, 0, 0), some (.iload_n 2, 1, 0, 0), some (.iadd, 1, 0, 0), some (.iaload, 1, 0, 0), some (.istore 6, 2, 0, 0), none, some (.aload_n 0, 1, 0, 0), some (.getfield 21, 3, 1, 7), none, none, some (.bipush 20, 2, 0, 0), none, some (.if_icmp .ge 14, 3, 99, 0), none, none, some (.aload_n 0, 1, 0, 0), some (.getfield 9, 3, 200, 7), none, none, some (.aload_n 0, 1, 0, 0), some (.getfield 21, 3, 1, 7), none, none, some (.iload 6, 2, 0, 0), none, some (.iastore, 1, 0, 0), some (.aload_n 0, 1, 0, 0), some (.dup, 1, 0, 0), some (.getfield 21, 3, 1, 7), none, none, some (.iconst 1, 1, 0, 0), some (.iadd, 1, 0, 0), some (.putfield 21, 3, 1, 7), none, none, some (.aload_n 0, 1, 0, 0), some (.iload 6, 2, 0, 0), none, some (.getstatic 47, 3, 1, 2), none, none, some (.iload 5, 2, 0, 0), none, some (.iaload, 1, 0, 0), some (.iload_n 3, 1, 0, 0), some (.iload 4, 2, 0, 0), none, some (.iconst 1, 1, 0, 0), some (.iadd, 1, 0, 0), some (.invokevirtual 50, 3, 63, 4), none, none, some (.ireturn, 1, 0, 0)]
def tb_X7_answerOf : List (Option m_E) := [some (.iload_n 1, 1, 0, 0), some (.lookupswitch 213 #[(1, 83), (2, 90), (3, 108), (11, 123), (21, 135), (31, 146), (41, 158), (51, 183), (61, 198)], 83, 0, 0), none, none, none, none, none, none, none, none, none, none, none, none, none, none, none, none, none, none, none, none, none, none, none, none, none, none, none, none, none, none, none, none, none, none, none, none, none, none, none, none, none, none, none, none, none, none, none, none, none, none, none, none, none, none, none, none, none, none, none, none, none, none, none, none, none, none, none, none, none, none, none, none, none, none, none, none, none, none, none, none, none, none, some (.iload_n 3, 1, 0, 0), some (.aload_n 0, 1, 0, 0), some (.getfield 36, 3, 3, 7), none, none, some (.iadd, 1, 0, 0), some (.ireturn, 1, 0, 0), some (.aload_n 0, 1, 0, 0), some (.aload_n 0, 1, 0, 0), some (.getfield 30, 3, 2, 7), none, none, some (.iconst 0, 1, 0, 0), some (.iload_n 3, 1, 0, 0), some (.iload 4, 2, 0, 0), none, some (.invokevirtual 40, 3, 62, 4), none, none, some (.aload_n 0, 1, 0, 0), some (.getfield 37, 3, 4, 7), none, none, some (.isub, 1, 0, 0), some (.ireturn, 1, 0, 0), some (.aload_n 0, 1, 0, 0), some (.aload_n 0, 1, 0, 0), some (.getfield 30, 3, 2, 7), none, none, some (.iconst 1, 1, 0, 0), some (.iload_n 3, 1, 0, 0), some (.iload 4, 2, 0, 0), none, some (.invokevirtual 40, 3, 62, 4), none, none, some (.iconst 2, 1, 0, 0), some (.imul, 1, 0, 0), some (.ireturn, 1, 0, 0), some (.aload_n 0, 1, 0, 0), some (.iload_n 2, 1, 0, 0), some (.iconst 1, 1, 0, 0), some (.iload_n 3, 1, 0, 0), some (.iconst 3, 1, 0, 0), some (.imul, 1, 0, 0), some (.iload 4, 2, 0, 0), none, some (.invokevirtual 40, 3, 62, 4), none, none, some (.ireturn, 1, 0, 0), some (.aload_n 0, 1, 0, 0), some (.iload_n 2, 1, 0, 0), some (.iconst 0, 1, 0, 0), some (.iload_n 3, 1, 0, 0), some (.iload 4, 2, 0, 0), none, some (.invokevirtual 40, 3, 62, 4), none, none, some (.ineg, 1, 0, 0), some (.ireturn, 1, 0, 0), some (.aload_n 0, 1, 0, 0), some (.iload_n 2, 1, 0, 0), some (.iconst 2, 1, 0, 0), some (.iload_n 3, 1, 0, 0), some (.iload 4, 2, 0, 0), none, some (.invokevirtual 40, 3, 62, 4), none, none, some (.iconst 5, 1, 0, 0), some (.ixor, 1, 0, 0), some (.ireturn, 1, 0, 0), some (.aload_n 0, 1, 0, 0), some (.iload_n 2, 1, 0, 0), some (.iconst 2, 1, 0, 0), some (.iload_n 3, 1, 0, 0), some (.iconst 1, 1, 0, 0), some (.isub, 1, 0, 0), some (.iload 4, 2, 0, 0), none, some (.invokevirtual 40, 3, 62, 4), none, none, some (.aload_n 0, 1, 0, 0), some (.aload_n 0, 1, 0, 0), some (.getfield 30, 3, 2, 7), none, none, some (.iconst 0, 1, 0, 0), some (.iconst 2, 1, 0, 0), some (.iload 4, 2, 0, 0), none, some (.invokevirtual 40, 3, 62, 4), none, none, some (.iadd, 1, 0, 0), some (.ireturn, 1, 0, 0), some (.aload_n 0, 1, 0, 0), some (.iload_n 2, 1, 0, 0), some (.iconst 1, 1, 0, 0), some (.iload_n 3, 1, 0, 0), some (.iload 4, 2, 0, 0), none, some (.invokevirtual 40, 3, 62, 4), none, none, some (.aload_n 0, 1, 0, 0), some (.getfield 36, 3, 3, 7), none, none, some (.iadd, 1, 0, 0), some (.ireturn, 1, 0, 0), some (.aload_n 0, 1, 0, 0), some (.iload_n 2, 1, 0, 0), some (.iconst 0, 1, 0, 0), some (.iload_n 3, 1, 0, 0), some (.iconst 1, 1, 0, 0), some (.iadd, 1, 0, 0), some (.iload 4, 2, 0, 0), none, some (.invokevirtual 40, 3, 62, 4), none, none, some (.bipush 9, 2, 0, 0), none, some (.ixor, 1, 0, 0), some (.ireturn, 1, 0, 0), some (.iconst 0, 1, 0, 0), some (.ireturn, 1, 0, 0)]
def tb_X8_init : List (Option m_E) := [some (.aload_n 0, 1, 0, 0), some (.invokespecial 3, 3, 9998, 0), none, none, some (.aload_n 0, 1, 0, 0), some (.bipush 16, 2, 0, 0), none, some (.newarray .int, 2, 0, 20), none, some (.putfield 9, 3, 203, 8), none, none, some (.aload_n 0, 1, 0, 0), some (.bipush 16, 2, 0, 0), none, some (.newarray .int, 2, 0, 20), none, some (.putfield 15, 3, 204, 8), none, none, some (.aload_n 0, 1, 0, 0), some (.bipush 16, 2, 0, 0), none, some (.newarray .int, 2, 0, 20), none, some (.putfield 18, 3, 205, 8), none, none, some (.return_, 1, 0, 0)]
def tb_X8_become : List (Option m_E) := [some (.aload_n 0, 1, 0, 0), some (.aload_n 1, 1, 0, 0), some (.getfield 21, 3, 0, 8), none, none, some (.putfield 21, 3, 0, 8), none, none, some (.aload_n 0, 1, 0, 0), some (.aload_n 1, 1, 0, 0), some (.getfield 25, 3, 1, 8), none, none, some (.putfield 25, 3, 1, 8), none, none, some (.aload_n 0, 1, 0, 0), some (.aload_n 1, 1, 0, 0), some (.getfield 28, 3, 2, 8), none, none, some (.putfield 28, 3, 2, 8), none, none, some (.aload_n 1, 1, 0, 0), some (.getfield 9, 3, 203, 8), none, none, some (.iconst 0, 1, 0, 0), some (.aload_n 0, 1, 0, 0), some (.getfield 9, 3, 203, 8), none, none, some (.iconst 0, 1, 0, 0), some (.bipush 16, 2, 0, 0), none, some (.invokestatic 31, 3, 9999, 0), none, none, some (.aload_n 1, 1, 0, 0), some (.getfield 15, 3, 204, 8), none, none, some (.iconst 0, 1, 0, 0), some (.aload_n 0, 1, 0, 0), some (.getfield 15, 3, 204, 8), none, none, some (.iconst 0, 1, 0, 0), some (.bipush 16, 2, 0, 0), none, some (.invokestatic 31, 3, 9999, 0), none, none, some (.aload_n 1, 1, 0, 0), some (.getfield 18, 3, 205, 8), none, none, some (.iconst 0, 1, 0, 0), some (.aload_n 0, 1, 0, 0), some (.getfield 18, 3, 205, 8), none, none, some (.iconst 0, 1, 0, 0), some (.bipush 16, 2, 0, 0), none, some (.invokestatic 31, 3, 9999, 0), none, none, some (.return_, 1, 0, 0)]
def tb_X8_sees : List (Option m_E) := [some (.iconst 1, 1, 0, 0), some (.aload_n 1, 1, 0, 0), some (.getfield 37, 3, 0, 2), none, none, some (.ishl, 1, 0, 0), some (.istore 5, 2, 0, 0), none, some (.iload_n 2, 1, 0, 0), some (.iconst 2, 1, 0, 0), some (.if_icmp .ne 14, 3, 24, 0), none, none, some (.aload_n 0, 1, 0, 0), some (.dup, 1, 0, 0), some (.getfield 28, 3, 2, 8), none, none, some (.iload 5, 2, 0, 0), none, some (.ior, 1, 0, 0), some (.putfield 28, 3, 2, 8), none, none, some (.iload_n 2, 1, 0, 0), some (.iconst 1, 1, 0, 0), some (.if_icmp .eq 5, 3, 31, 0), none, none, some (.iconst 0, 1, 0, 0), some (.ireturn, 1, 0, 1), some (.aload_n 0, 1, 0, 0), some (.getfield 18, 3, 205, 8), none, none, some (.aload_n 1, 1, 0, 0), some (.getfield 37, 3, 0, 2), none, none, some (.dup2, 1, 0, 0), some (.iaload, 1, 0, 0), some (.iconst 1, 1, 0, 0), some (.iadd, 1, 0, 0), some (.iastore, 1, 0, 0), some (.aload_n 1, 1, 0, 0), some (.getfield 42, 3, 2, 2), none, none, some (.ifCond .ne 51, 3, 99, 0), none, none, some (.aload_n 0, 1, 0, 0), some (.dup, 1, 0, 0), some (.getfield 21, 3, 0, 8), none, none, some (.iload 5, 2, 0, 0), none, some (.ior, 1, 0, 0), some (.putfield 21, 3, 0, 8), none, none, some (.aload_n 0, 1, 0, 0), some (.dup, 1, 0, 0), some (.getfield 25, 3, 1, 8), none, none, some (.iload 5, 2, 0, 0), none, some (.ior, 1, 0, 0), some (.putfield 25, 3, 1, 8), none, none, some (.aload_n 0, 1, 0, 0), some (.getfield 9, 3, 203, 8), none, none, some (.aload_n 1, 1, 0, 0), some (.getfield 37, 3, 0, 2), none, none, some (.aload_n 1, 1, 0, 0), some (.getfield 45, 3, 1, 2), none, none, some (.iastore, 1, 0, 0), some (.aload_n 0, 1, 0, 0), some (.getfield 15, 3, 204, 8), none, none, some (.aload_n 1, 1, 0, 0), some (.getfield 37, 3, 0, 2), none, none, some (.aload_n 1, 1, 0, 0), some (.getfield 48, 3, 3, 2), none, none, some (.iastore, 1, 0, 0), some (.aload_n 1, 1, 0, 0), some (.getfield 42, 3, 2, 2), none, none, some (.iconst 2, 1, 0, 0), some (.if_icmp .ne 16, 3, 120, 0), none, none, some (.aload_n 0, 1, 0, 0), some (.dup, 1, 0, 0), some (.getfield 25, 3, 1, 8), none, none, some (.iload 5, 2, 0, 0), none, some (.iconst (-1), 1, 0, 0), some (.ixor, 1, 0, 0), some (.iand, 1, 0, 0), some (.putfield 25, 3, 1, 8), none, none, some (.iload_n 3, 1, 0, 0), some (.tableswitch 95 0 3 #[31, 55, 66, 86], 31, 0, 0), none, none, none, none, none, none, none, none, none, none, none, none, none, none, none, none, none, none, none, none, none, none, none, none, none, none, none, none, none, none, some (.aload_n 1, 1, 0, 0), some (.getfield 42, 3, 2, 2), none, none, some (.iconst 1, 1, 0, 0), some (.if_icmp .ne 17, 3, 174, 0), none, none, some (.aload_n 0, 1, 0, 0), some (.getfield 21, 3, 0, 8), none, none, some (.iload 5, 2, 0, 0), none, some (.iand, 1, 0, 0), some (.ifCond .ne 7, 3, 174, 0), none, none, some (.iconst 1, 1, 0, 0), some (.goto 4, 3, 175, 0), none, none, some (.iconst 0, 1, 0, 0), some (.ireturn, 1, 0, 1), some (.aload_n 0, 1, 0, 0), some (.aload_n 1, 1, 0, 0), some (.getfield 45, 3, 1, 2), none, none, some (.iload 4, 2, 0, 0), none, some (.invokevirtual 51, 3, 67, 2), none, none, some (.ireturn, 1, 0, 1), some (.aload_n 0, 1, 0, 0), some (.getfield 18, 3, 205, 8), none, none, some (.aload_n 1, 1, 0, 0), some (.getfield 37, 3, 0, 2), none, none, some (.iaload, 1, 0, 0), some (.iload 4, 2, 0, 0), none, some (.if_icmp .le 7, 3, 205, 0), none, none, some (.iconst 1, 1, 0, 0), some (.goto 4, 3, 206, 0), none, none, some (.iconst 0, 1, 0, 0), some (.ireturn, 1, 0, 1), some (.aload_n 0, 1, 0, 0), some (.aload_n 1, 1, 0, 0), some (.getfield 37, 3, 0, 2), none, none, some (.invokevirtual 55, 3, 68, 1), none, none, some (.ireturn, 1, 0, 1), some (.aload_n 0, 1, 0, 0), some (.getfield 28, 3, 2, 8), none, none, some (.iload 5, 2, 0, 0), none, some (.iand, 1, 0, 0), some (.ifCond .eq 7, 3, 230, 0), none, none, some (.iconst 1, 1, 0, 0), some (.goto 4, 3, 231, 0), none, none, some (.iconst 0, 1, 0, 0), some (.ireturn, 1, 0, 1)]
def tb_X8_opensMany : List (Option m_E) := [some (.iconst 0, 1, 0, 0), some (.istore_n 3, 1, 0, 0), some (.iconst 0, 1, 0, 0), some (.istore 4, 2, 0, 0), none, some (.iload 4, 2, 0, 0), none, some (.bipush 16, 2, 0, 0), none, some (.if_icmp .ge 35, 3, 44, 0), none, none, some (.aload_n 0, 1, 0, 0), some (.getfield 25, 3, 1, 8), none, none, some (.iconst 1, 1, 0, 0), some (.iload 4, 2, 0, 0), none, some (.ishl, 1, 0, 0), some (.iand, 1, 0, 0), some (.ifCond .eq 17, 3, 38, 0), none, none, some (.aload_n 0, 1, 0, 0), some (.getfield 9, 3, 203, 8), none, none, some (.iload 4, 2, 0, 0), none, some (.iaload, 1, 0, 0), some (.iload_n 1, 1, 0, 0), some (.if_icmp .ne 6, 3, 38, 0), none, none, some (.iinc 3 1, 3, 0, 0), none, none, some (.iinc 4 1, 3, 0, 0), none, none, some (.goto (-36), 3, 5, 0), none, none, some (.iload_n 3, 1, 0, 0), some (.iload_n 2, 1, 0, 0), some (.if_icmp .le 7, 3, 53, 0), none, none, some (.iconst 1, 1, 0, 0), some (.goto 4, 3, 54, 0), none, none, some (.iconst 0, 1, 0, 0), some (.ireturn, 1, 0, 1)]
def tb_X8_isTwice : List (Option m_E) := [some (.aload_n 0, 1, 0, 0), some (.getfield 25, 3, 1, 8), none, none, some (.iconst 1, 1, 0, 0), some (.iload_n 1, 1, 0, 0), some (.ishl, 1, 0, 0), some (.iand, 1, 0, 0), some (.ifCond .ne 5, 3, 13, 0), none, none, some (.iconst 0, 1, 0, 0), some (.ireturn, 1, 0, 1), some (.iconst 0, 1, 0, 0), some (.istore_n 2, 1, 0, 0), some (.iload_n 2, 1, 0, 0), some (.bipush 16, 2, 0, 0), none, some (.if_icmp .ge 52, 3, 70, 0), none, none, some (.iload_n 2, 1, 0, 0), some (.iload_n 1, 1, 0, 0), some (.if_icmp .eq 18, 3, 41, 0), none, none, some (.aload_n 0, 1, 0, 0), some (.getfield 25, 3, 1, 8), none, none, some (.iconst 1, 1, 0, 0), some (.iload_n 2, 1, 0, 0), some (.ishl, 1, 0, 0), some (.iand, 1, 0, 0), some (.ifCond .eq 7, 3, 41, 0), none, none, some (.iconst 1, 1, 0, 0), some (.goto 4, 3, 42, 0), none, none, some (.iconst 0, 1, 0, 0), some (.istore_n 3, 1, 0, 0), some (.iload_n 3, 1, 0, 0), some (.ifCond .eq 20, 3, 64, 0), none, none, some (.aload_n 0, 1, 0, 0), some (.getfield 15, 3, 204, 8), none, none, some (.iload_n 2, 1, 0, 0), some (.iaload, 1, 0, 0), some (.aload_n 0, 1, 0, 0), some (.getfield 15, 3, 204, 8), none, none, some (.iload_n 1, 1, 0, 0), some (.iaload, 1, 0, 0), some (.if_icmp .ne 5, 3, 64, 0), none, none, some (.iconst 1, 1, 0, 0), some (.ireturn, 1, 0, 1), some (.iinc 2 1, 3, 0, 0), none, none, some (.goto (-52), 3, 15, 0), none, none, some (.iconst 0, 1, 0, 0), some (.ireturn, 1, 0, 1)]
def tb_X9_init : List (Option m_E) := [some (.aload_n 0, 1, 0, 0), some (.invokespecial 1, 3, 9998, 0), none, none, some (.aload_n 0, 1, 0, 0), some (.new 7, 3, 0, 5), none, none, some (.dup, 1, 0, 0), some (.invokespecial 9, 3, 41, 0), none, none, some (.putfield 10, 3, 200, 9), none, none, some (.aload_n 0, 1, 0, 0), some (.new 7, 3, 0, 5), none, none, some (.dup, 1, 0, 0), some (.invokespecial 9, 3, 41, 0), none, none, some (.putfield 16, 3, 201, 9), none, none, some (.aload_n 0, 1, 0, 0), some (.new 19, 3, 0, 3), none, none, some (.dup, 1, 0, 0), some (.invokespecial 21, 3, 16, 0), none, none, some (.putfield 22, 3, 203, 9), none, none, some (.aload_n 0, 1, 0, 0), some (.new 26, 3, 0, 4), none, none, some (.dup, 1, 0, 0), some (.invokespecial 28, 3, 31, 0), none, none, some (.putfield 29, 3, 204, 9), none, none, some (.return_, 1, 0, 0)]
def tb_X9_feed : List (Option m_E) := [some (.iload_n 3, 1, 0, 0), some (.iconst 1, 1, 0, 0), some (.if_icmp .lt 9, 3, 11, 0), none, none, some (.iload_n 3, 1, 0, 0), some (.bipush 8, 2, 0, 0), none, some (.if_icmp .le 6, 3, 14, 0), none, none, some (.bipush (-2), 2, 0, 0), none, some (.ireturn, 1, 0, 0), some (.aload_n 0, 1, 0, 0), some (.getfield 10, 3, 200, 9), none, none, some (.getfield 33, 3, 1, 5), none, none, some (.iload_n 3, 1, 0, 0), some (.iadd, 1, 0, 0), some (.sipush 160, 3, 0, 0), none, none, some (.if_icmp .le 6, 3, 32, 0), none, none, some (.bipush (-4), 2, 0, 0), none, some (.ireturn, 1, 0, 0), some (.iload_n 3, 1, 0, 0), some (.iconst 1, 1, 0, 0), some (.isub, 1, 0, 0), some (.istore 4, 2, 0, 0), none, some (.iload 4, 2, 0, 0), none, some (.ifCond .lt 49, 3, 88, 0), none, none, some (.aload_n 0, 1, 0, 0), some (.getfield 10, 3, 200, 9), none, none, some (.getfield 37, 3, 200, 5), none, none, some (.aload_n 0, 1, 0, 0), some (.getfield 10, 3, 200, 9), none, none, some (.getfield 33, 3, 1, 5), none, none, some (.lload_n 1, 1, 0, 0), some (.bipush 8, 2, 0, 0), none, some (.iload 4, 2, 0, 0), none, some (.imul, 1, 0, 0), some (.lushr, 1, 0, 0), some (.l2i, 1, 0, 0), some (.sipush 255, 3, 0, 0), none, none, some (.iand, 1, 0, 0), some (.iastore, 1, 0, 0), some (.aload_n 0, 1, 0, 0), some (.getfield 10, 3, 200, 9), none, none, some (.dup, 1, 0, 0), some (.getfield 33, 3, 1, 5), none, none, some (.iconst 1, 1, 0, 0), some (.iadd, 1, 0, 0), some (.putfield 33, 3, 1, 5), none, none, some (.iinc 4 (-1), 3, 0, 0), none, none, some (.goto (-48), 3, 37, 0), none, none, some (.aload_n 0, 1, 0, 0), some (.getfield 10, 3, 200, 9), none, none, some (.getfield 33, 3, 1, 5), none, none, some (.ireturn, 1, 0, 0)]
def tb_X9_text : List (Option m_E) := [some (.aload_n 0, 1, 0, 0), some (.getfield 10, 3, 200, 9), none, none, some (.getfield 41, 3, 3, 5), none, none, some (.bipush 8, 2, 0, 0), none, some (.if_icmp .lt 6, 3, 15, 0), none, none, some (.bipush (-4), 2, 0, 0), none, some (.ireturn, 1, 0, 0), some (.aload_n 0, 1, 0, 0), some (.getfield 10, 3, 200, 9), none, none, some (.getfield 33, 3, 1, 5), none, none, some (.istore_n 1, 1, 0, 0), some (.aload_n 0, 1, 0, 0), some (.getfield 10, 3, 200, 9), none, none, some (.iconst 0, 1, 0, 0), some (.putfield 33, 3, 1, 5), none, none, some (.aload_n 0, 1, 0, 0), some (.getfield 22, 3, 203, 9), none, none, some (.aload_n 0, 1, 0, 0), some (.getfield 10, 3, 200, 9), none, none, some (.getfield 37, 3, 200, 5), none, none, some (.iload_n 1, 1, 0, 0), some (.invokevirtual 44, 3, 17, 2), none, none, some (.astore_n 2, 1, 0, 0), some (.aload_n 2, 1, 0, 0), some (.ifnonnull 14, 3, 62, 0), none, none, some (.bipush (-10), 2, 0, 0), none, some (.aload_n 0, 1, 0, 0), some (.getfield 22, 3, 203, 9), none, none, some (.getfield 48, 3, 2, 3), none, none, some (.isub, 1, 0, 0), some (.ireturn, 1, 0, 0), some (.aload_n 0, 1, 0, 0), some (.getfield 10, 3, 200, 9), none, none, some (.getfield 51, 3, 202, 5), none, none, some (.aload_n 0, 1, 0, 0), some (.getfield 10, 3, 200, 9), none, none, some (.getfield 41, 3, 3, 5), none, none, some (.aload_n 2, 1, 0, 0), some (.aastore, 1, 0, 0), some (.aload_n 0, 1, 0, 0), some (.getfield 10, 3, 200, 9), none, none, some (.dup, 1, 0, 0), some (.getfield 41, 3, 3, 5), none, none, some (.iconst 1, 1, 0, 0), some (.iadd, 1, 0, 0), some (.putfield 41, 3, 3, 5), none, none, some (.aload_n 0, 1, 0, 0), some (.getfield 10, 3, 200, 9), none, none, some (.getfield 41, 3, 3, 5), none, none, some (.iconst 1, 1, 0, 0), some (.isub, 1, 0, 0), some (.ireturn, 1, 0, 0)]
def tb_X9_lines : List (Option m_E) := [some (.aload_n 0, 1, 0, 0), some (.getfield 10, 3, 200, 9), none, none, some (.iload_n 1, 1, 0, 0), some (.invokevirtual 55, 3, 43, 1), none, none, some (.astore_n 3, 1, 0, 0), some (.aload_n 3, 1, 0, 0), some (.ifnull 16, 3, 26, 0), none, none, some (.iload_n 2, 1, 0, 0), some (.iconst (-1), 1, 0, 0), some (.if_icmp .lt 11, 3, 26, 0), none, none, some (.iload_n 2, 1, 0, 0), some (.aload_n 3, 1, 0, 0), some (.getfield 59, 3, 0, 6), none, none, some (.if_icmp .lt 5, 3, 28, 0), none, none, some (.iconst (-1), 1, 0, 0), some (.ireturn, 1, 0, 0), some (.iload_n 2, 1, 0, 0), some (.iconst (-1), 1, 0, 0), some (.if_icmp .ne 10, 3, 40, 0), none, none, some (.aload_n 3, 1, 0, 0), some (.getfield 59, 3, 0, 6), none, none, some (.goto 9, 3, 46, 0), none, none, some (.aload_n 3, 1, 0, 0), some (.getfield 64, 3, 204, 6), none, none, some (.iload_n 2, 1, 0, 0), some (.iaload, 1, 0, 0), some (.ireturn, 1, 0, 0)]
def tb_X9_part : List (Option m_E) := [some (.aload_n 0, 1, 0, 0), some (.getfield 10, 3, 200, 9), none, none, some (.iload_n 1, 1, 0, 0), some (.invokevirtual 55, 3, 43, 1), none, none, some (.astore 5, 2, 0, 0), none, some (.aload 5, 2, 0, 0), none, some (.ifnull 21, 3, 33, 0), none, none, some (.iload_n 2, 1, 0, 0), some (.ifCond .lt 17, 3, 33, 0), none, none, some (.iload_n 2, 1, 0, 0), some (.iconst 1, 1, 0, 0), some (.if_icmp .gt 12, 3, 33, 0), none, none, some (.iload_n 3, 1, 0, 0), some (.ifCond .lt 8, 3, 33, 0), none, none, some (.iload_n 3, 1, 0, 0), some (.iconst 4, 1, 0, 0), some (.if_icmp .lt 5, 3, 35, 0), none, none, some (.iconst (-1), 1, 0, 0), some (.ireturn, 1, 0, 0), some (.iload 4, 2, 0, 0), none, some (.ifCond .lt 9, 3, 46, 0), none, none, some (.iload 4, 2, 0, 0), none, some (.iconst 1, 1, 0, 0), some (.if_icmp .le 5, 3, 48, 0), none, none, some (.iconst (-1), 1, 0, 0), some (.ireturn, 1, 0, 0), some (.iload_n 2, 1, 0, 0), some (.iconst 4, 1, 0, 0), some (.imul, 1, 0, 0), some (.iload_n 3, 1, 0, 0), some (.iadd, 1, 0, 0), some (.istore 6, 2, 0, 0), none, some (.iload 4, 2, 0, 0), none, some (.iconst 1, 1, 0, 0), some (.if_icmp .ne 12, 3, 70, 0), none, none, some (.aload 5, 2, 0, 0), none, some (.getfield 67, 3, 208, 6), none, none, some (.iload 6, 2, 0, 0), none, some (.iaload, 1, 0, 0), some (.ireturn, 1, 0, 0), some (.aload 5, 2, 0, 0), none, some (.getfield 67, 3, 208, 6), none, none, some (.iload 6, 2, 0, 0), none, some (.iaload, 1, 0, 0), some (.bipush (-5), 2, 0, 0), none, some (.if_icmp .eq 5, 3, 85, 0), none, none, some (.iconst 2, 1, 0, 0), some (.ireturn, 1, 0, 0), some (.aload 5, 2, 0, 0), none, some (.getfield 70, 3, 7, 6), none, none, some (.iload 6, 2, 0, 0), none, some (.ishr, 1, 0, 0), some (.iconst 1, 1, 0, 0), some (.iand, 1, 0, 0), some (.ireturn, 1, 0, 0)]
def tb_X9_box : List (Option m_E) := [some (.iload_n 1, 1, 0, 0), some (.ifCond .lt 20, 3, 21, 0), none, none, some (.iload_n 1, 1, 0, 0), some (.bipush 7, 2, 0, 0), none, some (.if_icmp .ge 14, 3, 21, 0), none, none, some (.aload_n 0, 1, 0, 0), some (.getfield 10, 3, 200, 9), none, none, some (.iload_n 2, 1, 0, 0), some (.invokevirtual 55, 3, 43, 1), none, none, some (.ifnonnull 5, 3, 23, 0), none, none, some (.iconst (-1), 1, 0, 0), some (.ireturn, 1, 0, 0), some (.aload_n 0, 1, 0, 0), some (.getfield 10, 3, 200, 9), none, none, some (.getfield 73, 3, 5, 5), none, none, some (.bipush 8, 2, 0, 0), none, some (.if_icmp .lt 6, 3, 38, 0), none, none, some (.bipush (-4), 2, 0, 0), none, some (.ireturn, 1, 0, 0), some (.aload_n 0, 1, 0, 0), some (.getfield 10, 3, 200, 9), none, none, some (.getfield 76, 3, 204, 5), none, none, some (.aload_n 0, 1, 0, 0), some (.getfield 10, 3, 200, 9), none, none, some (.getfield 73, 3, 5, 5), none, none, some (.aaload, 1, 0, 0), some (.aload_n 0, 1, 0, 0), some (.getfield 10, 3, 200, 9), none, none, some (.getfield 73, 3, 5, 5), none, none, some (.iload_n 1, 1, 0, 0), some (.iload_n 2, 1, 0, 0), some (.invokevirtual 80, 3, 1, 3), none, none, some (.aload_n 0, 1, 0, 0), some (.getfield 10, 3, 200, 9), none, none, some (.dup, 1, 0, 0), some (.getfield 73, 3, 5, 5), none, none, some (.iconst 1, 1, 0, 0), some (.iadd, 1, 0, 0), some (.putfield 73, 3, 5, 5), none, none, some (.aload_n 0, 1, 0, 0), some (.getfield 10, 3, 200, 9), none, none, some (.getfield 73, 3, 5, 5), none, none, some (.iconst 1, 1, 0, 0), some (.isub, 1, 0, 0), some (.ireturn, 1, 0, 0)]
def tb_X9_work : List (Option m_E) := [some (.aload_n 0, 1, 0, 0), some (.getfield 10, 3, 200, 9), none, none, some (.iload_n 1, 1, 0, 0), some (.invokevirtual 86, 3, 44, 1), none, none, some (.astore 6, 2, 0, 0), none, some (.aload 6, 2, 0, 0), none, some (.ifnonnull 5, 3, 17, 0), none, none, some (.iconst (-1), 1, 0, 0), some (.ireturn, 1, 0, 0), some (.iload_n 2, 1, 0, 0), some (.iload_n 3, 1, 0, 0), some (.iload 4, 2, 0, 0), none, some (.iload 5, 2, 0, 0), none, some (.invokestatic 90, 3, 97, 4), none, none, some (.istore 7, 2, 0, 0), none, some (.iload 7, 2, 0, 0), none, some (.ifCond .eq 6, 3, 36, 0), none, none, some (.iload 7, 2, 0, 0), none, some (.ireturn, 1, 0, 0), some (.aload 6, 2, 0, 0), none, some (.new 94, 3, 0, 2), none, none, some (.dup, 1, 0, 0), some (.iload_n 2, 1, 0, 0), some (.iload_n 3, 1, 0, 0), some (.iload 4, 2, 0, 0), none, some (.iload 5, 2, 0, 0), none, some (.invokespecial 96, 3, 15, 4), none, none, some (.aload_n 0, 1, 0, 0), some (.getfield 10, 3, 200, 9), none, none, some (.aload 6, 2, 0, 0), none, some (.getfield 99, 3, 2, 0), none, none, some (.invokevirtual 55, 3, 43, 1), none, none, some (.invokevirtual 102, 3, 3, 2), none, none, some (.ireturn, 1, 0, 0)]
def tb_X9_cell : List (Option m_E) := [some (.aload_n 0, 1, 0, 0), some (.getfield 10, 3, 200, 9), none, none, some (.iload_n 1, 1, 0, 0), some (.invokevirtual 86, 3, 44, 1), none, none, some (.astore 5, 2, 0, 0), none, some (.aload 5, 2, 0, 0), none, some (.ifnull 12, 3, 24, 0), none, none, some (.iload_n 2, 1, 0, 0), some (.ifCond .lt 8, 3, 24, 0), none, none, some (.iload_n 2, 1, 0, 0), some (.iconst 3, 1, 0, 0), some (.if_icmp .lt 6, 3, 27, 0), none, none, some (.ldc 106, 2, (-2147483648), 0), none, some (.ireturn, 1, 0, 0), some (.iload_n 3, 1, 0, 0), some (.ifCond .lt 8, 3, 36, 0), none, none, some (.iload_n 3, 1, 0, 0), some (.iconst 4, 1, 0, 0), some (.if_icmp .lt 6, 3, 39, 0), none, none, some (.ldc 106, 2, (-2147483648), 0), none, some (.ireturn, 1, 0, 0), some (.iload_n 2, 1, 0, 0), some (.ifCond .ne 11, 3, 51, 0), none, none, some (.iload 4, 2, 0, 0), none, some (.invokestatic 107, 3, 98, 1), none, none, some (.ifCond .eq 19, 3, 67, 0), none, none, some (.iload_n 2, 1, 0, 0), some (.iconst 1, 1, 0, 0), some (.if_icmp .ne 17, 3, 70, 0), none, none, some (.iload 4, 2, 0, 0), none, some (.ifCond .lt 9, 3, 67, 0), none, none, some (.iload 4, 2, 0, 0), none, some (.iconst 4, 1, 0, 0), some (.if_icmp .lt 6, 3, 70, 0), none, none, some (.ldc 106, 2, (-2147483648), 0), none, some (.ireturn, 1, 0, 0), some (.aload 5, 2, 0, 0), none, some (.getfield 111, 3, 206, 0), none, none, some (.iload_n 2, 1, 0, 0), some (.iconst 4, 1, 0, 0), some (.imul, 1, 0, 0), some (.iload_n 3, 1, 0, 0), some (.iadd, 1, 0, 0), some (.iload 4, 2, 0, 0), none, some (.iload 4, 2, 0, 0), none, some (.invokestatic 115, 3, 103, 3), none, none, some (.invokevirtual 119, 3, 9, 1), none, none, some (.ireturn, 1, 0, 0)]
def tb_X9_latest : List (Option m_E) := [some (.aload_n 0, 1, 0, 0), some (.getfield 10, 3, 200, 9), none, none, some (.iload_n 1, 1, 0, 0), some (.invokevirtual 86, 3, 44, 1), none, none, some (.astore_n 2, 1, 0, 0), some (.aload_n 2, 1, 0, 0), some (.ifnonnull 7, 3, 17, 0), none, none, some (.iconst (-1), 1, 0, 0), some (.goto 7, 3, 21, 0), none, none, some (.aload_n 2, 1, 0, 0), some (.getfield 124, 3, 3, 0), none, none, some (.ireturn, 1, 0, 0)]
def tb_X9_row : List (Option m_E) := [some (.iload_n 1, 1, 0, 0), some (.iconst (-1), 1, 0, 0), some (.if_icmp .ne 13, 3, 15, 0), none, none, some (.aload_n 0, 1, 0, 0), some (.getfield 10, 3, 200, 9), none, none, some (.iconst 0, 1, 0, 0), some (.putfield 127, 3, 7, 5), none, none, some (.iconst 0, 1, 0, 0), some (.ireturn, 1, 0, 0), some (.aload_n 0, 1, 0, 0), some (.getfield 10, 3, 200, 9), none, none, some (.iload_n 1, 1, 0, 0), some (.invokevirtual 86, 3, 44, 1), none, none, some (.ifnonnull 5, 3, 28, 0), none, none, some (.iconst (-1), 1, 0, 0), some (.ireturn, 1, 0, 0), some (.aload_n 0, 1, 0, 0), some (.getfield 10, 3, 200, 9), none, none, some (.iload_n 1, 1, 0, 0), some (.invokevirtual 130, 3, 46, 1), none, none, some (.ifCond .eq 6, 3, 42, 0), none, none, some (.bipush (-3), 2, 0, 0), none, some (.ireturn, 1, 0, 0), some (.aload_n 0, 1, 0, 0), some (.getfield 10, 3, 200, 9), none, none, some (.getfield 127, 3, 7, 5), none, none, some (.bipush 6, 2, 0, 0), none, some (.if_icmp .lt 6, 3, 57, 0), none, none, some (.bipush (-4), 2, 0, 0), none, some (.ireturn, 1, 0, 0), some (.aload_n 0, 1, 0, 0), some (.getfield 10, 3, 200, 9), none, none, some (.getfield 133, 3, 206, 5), none, none, some (.aload_n 0, 1, 0, 0), some (.getfield 10, 3, 200, 9), none, none, some (.getfield 127, 3, 7, 5), none, none, some (.iload_n 1, 1, 0, 0), some (.iastore, 1, 0, 0), some (.aload_n 0, 1, 0, 0), some (.getfield 10, 3, 200, 9), none, none, some (.dup, 1, 0, 0), some (.getfield 127, 3, 7, 5), none, none, some (.iconst 1, 1, 0, 0), some (.iadd, 1, 0, 0), some (.putfield 127, 3, 7, 5), none, none, some (.aload_n 0, 1, 0, 0), some (.getfield 10, 3, 200, 9), none, none, some (.getfield 127, 3, 7, 5), none, none, some (.ireturn, 1, 0, 0)]
def tb_X9_send : List (Option m_E) := [some (.iload_n 1, 1, 0, 0), some (.iload_n 2, 1, 0, 0), some (.iload_n 3, 1, 0, 0), some (.iload 4, 2, 0, 0), none, some (.invokestatic 90, 3, 97, 4), none, none, some (.istore 5, 2, 0, 0), none, some (.iload 5, 2, 0, 0), none, some (.ifCond .eq 6, 3, 18, 0), none, none, some (.iload 5, 2, 0, 0), none, some (.ireturn, 1, 0, 0), some (.aload_n 0, 1, 0, 0), some (.getfield 10, 3, 200, 9), none, none, some (.getfield 127, 3, 7, 5), none, none, some (.ifCond .ne 6, 3, 31, 0), none, none, some (.bipush (-3), 2, 0, 0), none, some (.ireturn, 1, 0, 0), some (.aload_n 0, 1, 0, 0), some (.getfield 10, 3, 200, 9), none, none, some (.getfield 136, 3, 10, 5), none, none, some (.iconst 1, 1, 0, 0), some (.iload_n 1, 1, 0, 0), some (.ishl, 1, 0, 0), some (.iand, 1, 0, 0), some (.ifCond .eq 7, 3, 49, 0), none, none, some (.iconst 1, 1, 0, 0), some (.goto 4, 3, 50, 0), none, none, some (.iconst 0, 1, 0, 0), some (.istore 6, 2, 0, 0), none, some (.iload 6, 2, 0, 0), none, some (.ifCond .eq 18, 3, 72, 0), none, none, some (.aload_n 0, 1, 0, 0), some (.getfield 10, 3, 200, 9), none, none, some (.getfield 139, 3, 9, 5), none, none, some (.bipush 20, 2, 0, 0), none, some (.if_icmp .lt 6, 3, 72, 0), none, none, some (.bipush (-4), 2, 0, 0), none, some (.ireturn, 1, 0, 0), some (.new 94, 3, 0, 2), none, none, some (.dup, 1, 0, 0), some (.iload_n 1, 1, 0, 0), some (.iload_n 2, 1, 0, 0), some (.iload_n 3, 1, 0, 0), some (.iload 4, 2, 0, 0), none, some (.invokespecial 96, 3, 15, 4), none, none, some (.astore 7, 2, 0, 0), none, some (.iload 6, 2, 0, 0), none, some (.ifCond .ne 13, 3, 101, 0), none, none, some (.aload_n 0, 1, 0, 0), some (.getfield 10, 3, 200, 9), none, none, some (.aload 7, 2, 0, 0), none, some (.invokevirtual 142, 3, 47, 1), none, none, some (.ireturn, 1, 0, 0), some (.aload_n 0, 1, 0, 0), some (.getfield 10, 3, 200, 9), none, none, some (.getfield 146, 3, 208, 5), none, none, some (.aload_n 0, 1, 0, 0), some (.getfield 10, 3, 200, 9), none, none, some (.getfield 139, 3, 9, 5), none, none, some (.aload 7, 2, 0, 0), none, some (.aastore, 1, 0, 0), some (.aload_n 0, 1, 0, 0), some (.getfield 10, 3, 200, 9), none, none, some (.dup, 1, 0, 0), some (.getfield 139, 3, 9, 5), none, none, some (.iconst 1, 1, 0, 0), some (.iadd, 1, 0, 0), some (.putfield 139, 3, 9, 5), none, none, some (.bipush (-6), 2, 0, 0), none, some (.ireturn, 1, 0, 0)]
def tb_X9_lead : List (Option m_E) := [some (.aload_n 0, 1, 0, 0), some (.getfield 10, 3, 200, 9), none, none, some (.iload_n 1, 1, 0, 0), some (.invokevirtual 86, 3, 44, 1), none, none, some (.astore 4, 2, 0, 0), none, some (.aload_n 0, 1, 0, 0), some (.getfield 10, 3, 200, 9), none, none, some (.iload_n 2, 1, 0, 0), some (.invokevirtual 86, 3, 44, 1), none, none, some (.astore 5, 2, 0, 0), none, some (.aload 4, 2, 0, 0), none, some (.ifnull 8, 3, 30, 0), none, none, some (.aload 5, 2, 0, 0), none, some (.ifnonnull 5, 3, 32, 0), none, none, some (.iconst (-1), 1, 0, 0), some (.ireturn, 1, 0, 0), some (.iload_n 3, 1, 0, 0), some (.invokestatic 150, 3, 99, 1), none, none, some (.ifCond .ne 6, 3, 42, 0), none, none, some (.bipush (-2), 2, 0, 0), none, some (.ireturn, 1, 0, 0), some (.aload_n 0, 1, 0, 0), some (.getfield 10, 3, 200, 9), none, none, some (.iload_n 1, 1, 0, 0), some (.invokevirtual 130, 3, 46, 1), none, none, some (.ifCond .eq 6, 3, 56, 0), none, none, some (.bipush (-3), 2, 0, 0), none, some (.ireturn, 1, 0, 0), some (.iload_n 2, 1, 0, 0), some (.iload_n 1, 1, 0, 0), some (.if_icmp .eq 25, 3, 83, 0), none, none, some (.aload_n 0, 1, 0, 0), some (.getfield 10, 3, 200, 9), none, none, some (.iload_n 2, 1, 0, 0), some (.invokevirtual 153, 3, 45, 1), none, none, some (.ifCond .ne 11, 3, 80, 0), none, none, some (.aload 5, 2, 0, 0), none, some (.invokevirtual 156, 3, 4, 0), none, none, some (.ifCond .le 6, 3, 83, 0), none, none, some (.bipush (-3), 2, 0, 0), none, some (.ireturn, 1, 0, 0), some (.iconst 0, 1, 0, 0), some (.istore 6, 2, 0, 0), none, some (.iload 6, 2, 0, 0), none, some (.bipush 16, 2, 0, 0), none, some (.if_icmp .ge 76, 3, 166, 0), none, none, some (.iload_n 3, 1, 0, 0), some (.iconst 1, 1, 0, 0), some (.iload 6, 2, 0, 0), none, some (.ishl, 1, 0, 0), some (.iand, 1, 0, 0), some (.ifCond .ne 6, 3, 105, 0), none, none, some (.goto 58, 3, 160, 0), none, none, some (.aload_n 0, 1, 0, 0), some (.getfield 10, 3, 200, 9), none, none, some (.aload 4, 2, 0, 0), none, some (.getfield 160, 3, 205, 0), none, none, some (.iload 6, 2, 0, 0), none, some (.iaload, 1, 0, 0), some (.invokevirtual 86, 3, 44, 1), none, none, some (.astore 7, 2, 0, 0), none, some (.aload 7, 2, 0, 0), none, some (.ifnull 27, 3, 151, 0), none, none, some (.aload 7, 2, 0, 0), none, some (.getfield 163, 3, 0, 0), none, none, some (.iload_n 2, 1, 0, 0), some (.if_icmp .eq 18, 3, 151, 0), none, none, some (.aload 5, 2, 0, 0), none, some (.getfield 111, 3, 206, 0), none, none, some (.aload 7, 2, 0, 0), none, some (.getfield 111, 3, 206, 0), none, none, some (.iload 6, 2, 0, 0), none, some (.invokevirtual 166, 3, 12, 2), none, none, some (.aload 4, 2, 0, 0), none, some (.getfield 160, 3, 205, 0), none, none, some (.iload 6, 2, 0, 0), none, some (.iload_n 2, 1, 0, 0), some (.iastore, 1, 0, 0), some (.iinc 6 1, 3, 0, 0), none, none, some (.goto (-77), 3, 86, 0), none, none, some (.aload 4, 2, 0, 0), none, some (.invokevirtual 156, 3, 4, 0), none, none, some (.ireturn, 1, 0, 0)]
def tb_X9_led : List (Option m_E) := [some (.aload_n 0, 1, 0, 0), some (.getfield 10, 3, 200, 9), none, none, some (.iload_n 1, 1, 0, 0), some (.invokevirtual 86, 3, 44, 1), none, none, some (.astore_n 3, 1, 0, 0), some (.aload_n 3, 1, 0, 0), some (.ifnull 10, 3, 20, 0), none, none, some (.iload_n 2, 1, 0, 0), some (.invokestatic 107, 3, 98, 1), none, none, some (.ifCond .ne 7, 3, 24, 0), none, none, some (.iconst (-1), 1, 0, 0), some (.goto 9, 3, 30, 0), none, none, some (.aload_n 3, 1, 0, 0), some (.getfield 160, 3, 205, 0), none, none, some (.iload_n 2, 1, 0, 0), some (.iaload, 1, 0, 0), some (.ireturn, 1, 0, 0)]
def tb_X9_hold : List (Option m_E) := [some (.iload_n 1, 1, 0, 0), some (.invokestatic 150, 3, 99, 1), none, none, some (.ifCond .ne 6, 3, 10, 0), none, none, some (.bipush (-2), 2, 0, 0), none, some (.ireturn, 1, 0, 0), some (.aload_n 0, 1, 0, 0), some (.getfield 10, 3, 200, 9), none, none, some (.dup, 1, 0, 0), some (.getfield 136, 3, 10, 5), none, none, some (.iload_n 1, 1, 0, 0), some (.ior, 1, 0, 0), some (.putfield 136, 3, 10, 5), none, none, some (.aload_n 0, 1, 0, 0), some (.getfield 10, 3, 200, 9), none, none, some (.getfield 136, 3, 10, 5), none, none, some (.invokestatic 170, 3, 179, 1), none, none, some (.ireturn, 1, 0, 0)]
def tb_X9_release : List (Option m_E) := [some (.aload_n 0, 1, 0, 0), some (.getfield 10, 3, 200, 9), none, none, some (.getfield 127, 3, 7, 5), none, none, some (.ifCond .ne 16, 3, 23, 0), none, none, some (.aload_n 0, 1, 0, 0), some (.getfield 10, 3, 200, 9), none, none, some (.getfield 139, 3, 9, 5), none, none, some (.ifCond .le 6, 3, 23, 0), none, none, some (.bipush (-3), 2, 0, 0), none, some (.ireturn, 1, 0, 0), some (.aload_n 0, 1, 0, 0), some (.getfield 10, 3, 200, 9), none, none, some (.getfield 139, 3, 9, 5), none, none, some (.istore_n 1, 1, 0, 0), some (.aload_n 0, 1, 0, 0), some (.getfield 10, 3, 200, 9), none, none, some (.iconst 0, 1, 0, 0), some (.putfield 136, 3, 10, 5), none, none, some (.aload_n 0, 1, 0, 0), some (.getfield 10, 3, 200, 9), none, none, some (.iconst 0, 1, 0, 0), some (.putfield 139, 3, 9, 5), none, none, some (.iconst 0, 1, 0, 0), some (.istore_n 2, 1, 0, 0), some (.iload_n 2, 1, 0, 0), some (.iload_n 1, 1, 0, 0), some (.if_icmp .ge 26, 3, 77, 0), none, none, some (.aload_n 0, 1, 0, 0), some (.getfield 10, 3, 200, 9), none, none, some (.aload_n 0, 1, 0, 0), some (.getfield 10, 3, 200, 9), none, none, some (.getfield 146, 3, 208, 5), none, none, some (.iload_n 2, 1, 0, 0), some (.aaload, 1, 0, 0), some (.invokevirtual 142, 3, 47, 1), none, none, some (.pop, 1, 0, 0), some (.iinc 2 1, 3, 0, 0), none, none, some (.goto (-25), 3, 49, 0), none, none, some (.iload_n 1, 1, 0, 0), some (.ireturn, 1, 0, 0)]
def tb_X9_whole : List (Option m_E) := [some (.aload_n 0, 1, 0, 0), some (.getfield 10, 3, 200, 9), none, none, some (.iload_n 1, 1, 0, 0), some (.invokevirtual 86, 3, 44, 1), none, none, some (.astore 4, 2, 0, 0), none, some (.aload_n 0, 1, 0, 0), some (.getfield 10, 3, 200, 9), none, none, some (.iload_n 2, 1, 0, 0), some (.invokevirtual 86, 3, 44, 1), none, none, some (.astore 5, 2, 0, 0), none, some (.aload_n 0, 1, 0, 0), some (.getfield 10, 3, 200, 9), none, none, some (.iload_n 3, 1, 0, 0), some (.invokevirtual 86, 3, 44, 1), none, none, some (.astore 6, 2, 0, 0), none, some (.aload 4, 2, 0, 0), none, some (.ifnull 13, 3, 45, 0), none, none, some (.aload 5, 2, 0, 0), none, some (.ifnull 8, 3, 45, 0), none, none, some (.aload 6, 2, 0, 0), none, some (.ifnonnull 5, 3, 47, 0), none, none, some (.iconst (-1), 1, 0, 0), some (.ireturn, 1, 0, 0), some (.iload_n 1, 1, 0, 0), some (.iload_n 2, 1, 0, 0), some (.if_icmp .eq 13, 3, 62, 0), none, none, some (.iload_n 1, 1, 0, 0), some (.iload_n 3, 1, 0, 0), some (.if_icmp .eq 8, 3, 62, 0), none, none, some (.iload_n 2, 1, 0, 0), some (.iload_n 3, 1, 0, 0), some (.if_icmp .ne 6, 3, 65, 0), none, none, some (.bipush (-2), 2, 0, 0), none, some (.ireturn, 1, 0, 0), some (.iconst 0, 1, 0, 0), some (.istore 7, 2, 0, 0), none, some (.iload 7, 2, 0, 0), none, some (.bipush 16, 2, 0, 0), none, some (.if_icmp .ge 51, 3, 123, 0), none, none, some (.aload_n 0, 1, 0, 0), some (.getfield 10, 3, 200, 9), none, none, some (.aload 4, 2, 0, 0), none, some (.getfield 160, 3, 205, 0), none, none, some (.iload 7, 2, 0, 0), none, some (.iaload, 1, 0, 0), some (.invokevirtual 86, 3, 44, 1), none, none, some (.astore 8, 2, 0, 0), none, some (.aload 8, 2, 0, 0), none, some (.ifnull 23, 3, 117, 0), none, none, some (.aload 6, 2, 0, 0), none, some (.getfield 111, 3, 206, 0), none, none, some (.aload 8, 2, 0, 0), none, some (.getfield 111, 3, 206, 0), none, none, some (.iload 7, 2, 0, 0), none, some (.invokevirtual 175, 3, 13, 2), none, none, some (.ifCond .ne 5, 3, 117, 0), none, none, some (.iconst 0, 1, 0, 0), some (.ireturn, 1, 0, 0), some (.iinc 7 1, 3, 0, 0), none, none, some (.goto (-52), 3, 68, 0), none, none, some (.aload 6, 2, 0, 0), none, some (.getfield 111, 3, 206, 0), none, none, some (.aload 4, 2, 0, 0), none, some (.getfield 111, 3, 206, 0), none, none, some (.aload 5, 2, 0, 0), none, some (.getfield 111, 3, 206, 0), none, none, some (.invokevirtual 179, 3, 14, 2), none, none, some (.ifCond .eq 7, 3, 148, 0), none, none, some (.iconst 1, 1, 0, 0), some (.goto 4, 3, 149, 0), none, none, some (.iconst 0, 1, 0, 0), some (.ireturn, 1, 0, 0)]
def tb_X9_copy : List (Option m_E) := [some (.aload_n 0, 1, 0, 0), some (.getfield 10, 3, 200, 9), none, none, some (.iload_n 1, 1, 0, 0), some (.invokevirtual 86, 3, 44, 1), none, none, some (.astore_n 2, 1, 0, 0), some (.aload_n 2, 1, 0, 0), some (.ifnonnull 5, 3, 15, 0), none, none, some (.iconst (-1), 1, 0, 0), some (.ireturn, 1, 0, 0), some (.aload_n 2, 1, 0, 0), some (.getfield 183, 3, 207, 0), none, none, some (.aload_n 2, 1, 0, 0), some (.getfield 111, 3, 206, 0), none, none, some (.invokevirtual 186, 3, 8, 1), none, none, some (.aload_n 2, 1, 0, 0), some (.dup, 1, 0, 0), some (.getfield 190, 3, 4, 0), none, none, some (.iconst 1, 1, 0, 0), some (.iadd, 1, 0, 0), some (.putfield 190, 3, 4, 0), none, none, some (.aload_n 2, 1, 0, 0), some (.getfield 190, 3, 4, 0), none, none, some (.iconst 1, 1, 0, 0), some (.isub, 1, 0, 0), some (.ireturn, 1, 0, 0)]
def tb_X9_fall : List (Option m_E) := [some (.aload_n 0, 1, 0, 0), some (.getfield 10, 3, 200, 9), none, none, some (.iload_n 1, 1, 0, 0), some (.invokevirtual 86, 3, 44, 1), none, none, some (.astore_n 2, 1, 0, 0), some (.aload_n 2, 1, 0, 0), some (.ifnonnull 5, 3, 15, 0), none, none, some (.iconst (-1), 1, 0, 0), some (.ireturn, 1, 0, 0), some (.iconst 0, 1, 0, 0), some (.istore_n 3, 1, 0, 0), some (.iconst 0, 1, 0, 0), some (.istore 4, 2, 0, 0), none, some (.iload 4, 2, 0, 0), none, some (.bipush 16, 2, 0, 0), none, some (.if_icmp .ge 32, 3, 56, 0), none, none, some (.aload_n 2, 1, 0, 0), some (.getfield 111, 3, 206, 0), none, none, some (.aload_n 2, 1, 0, 0), some (.getfield 183, 3, 207, 0), none, none, some (.iload 4, 2, 0, 0), none, some (.invokevirtual 175, 3, 13, 2), none, none, some (.ifCond .eq 10, 3, 50, 0), none, none, some (.iload_n 3, 1, 0, 0), some (.iconst 1, 1, 0, 0), some (.iload 4, 2, 0, 0), none, some (.ishl, 1, 0, 0), some (.ior, 1, 0, 0), some (.istore_n 3, 1, 0, 0), some (.iinc 4 1, 3, 0, 0), none, none, some (.goto (-33), 3, 20, 0), none, none, some (.aload_n 2, 1, 0, 0), some (.getfield 111, 3, 206, 0), none, none, some (.aload_n 2, 1, 0, 0), some (.getfield 183, 3, 207, 0), none, none, some (.invokevirtual 186, 3, 8, 1), none, none, some (.iload_n 3, 1, 0, 0), some (.ireturn, 1, 0, 0)]
def tb_X9_letter : List (Option m_E) := [some (.iload_n 1, 1, 0, 0), some (.iload_n 2, 1, 0, 0), some (.iload_n 3, 1, 0, 0), some (.iload 4, 2, 0, 0), none, some (.invokestatic 90, 3, 97, 4), none, none, some (.istore 5, 2, 0, 0), none, some (.iload 5, 2, 0, 0), none, some (.ifCond .eq 6, 3, 18, 0), none, none, some (.iload 5, 2, 0, 0), none, some (.ireturn, 1, 0, 0), some (.aload_n 0, 1, 0, 0), some (.getfield 10, 3, 200, 9), none, none, some (.getfield 193, 3, 12, 5), none, none, some (.iconst 5, 1, 0, 0), some (.if_icmp .lt 6, 3, 32, 0), none, none, some (.bipush (-4), 2, 0, 0), none, some (.ireturn, 1, 0, 0), some (.aload_n 0, 1, 0, 0), some (.getfield 10, 3, 200, 9), none, none, some (.getfield 196, 3, 211, 5), none, none, some (.aload_n 0, 1, 0, 0), some (.getfield 10, 3, 200, 9), none, none, some (.getfield 193, 3, 12, 5), none, none, some (.new 94, 3, 0, 2), none, none, some (.dup, 1, 0, 0), some (.iload_n 1, 1, 0, 0), some (.iload_n 2, 1, 0, 0), some (.iload_n 3, 1, 0, 0), some (.iload 4, 2, 0, 0), none, some (.invokespecial 96, 3, 15, 4), none, none, some (.aastore, 1, 0, 0), some (.aload_n 0, 1, 0, 0), some (.getfield 10, 3, 200, 9), none, none, some (.dup, 1, 0, 0), some (.getfield 193, 3, 12, 5), none, none, some (.iconst 1, 1, 0, 0), some (.iadd, 1, 0, 0), some (.putfield 193, 3, 12, 5), none, none, some (.aload_n 0, 1, 0, 0), some (.getfield 10, 3, 200, 9), none, none, some (.getfield 193, 3, 12, 5), none, none, some (.ireturn, 1, 0, 0)]
def tb_X9_shown : List (Option m_E) := [some (.aload_n 0, 1, 0, 0), some (.getfield 10, 3, 200, 9), none, none, some (.iload_n 1, 1, 0, 0), some (.invokevirtual 55, 3, 43, 1), none, none, some (.astore 6, 2, 0, 0), none, some (.aload 6, 2, 0, 0), none, some (.ifnull 17, 3, 29, 0), none, none, some (.iload_n 2, 1, 0, 0), some (.invokestatic 199, 3, 101, 1), none, none, some (.ifCond .eq 10, 3, 29, 0), none, none, some (.iload 5, 2, 0, 0), none, some (.bipush (-2), 2, 0, 0), none, some (.if_icmp .ge 5, 3, 31, 0), none, none, some (.iconst (-1), 1, 0, 0), some (.ireturn, 1, 0, 0), some (.iload_n 3, 1, 0, 0), some (.invokestatic 202, 3, 100, 1), none, none, some (.ifCond .eq 11, 3, 46, 0), none, none, some (.iload 4, 2, 0, 0), none, some (.invokestatic 205, 3, 102, 1), none, none, some (.ifCond .ne 6, 3, 49, 0), none, none, some (.bipush (-2), 2, 0, 0), none, some (.ireturn, 1, 0, 0), some (.aload_n 0, 1, 0, 0), some (.getfield 29, 3, 204, 9), none, none, some (.aload_n 0, 1, 0, 0), some (.getfield 10, 3, 200, 9), none, none, some (.getfield 196, 3, 211, 5), none, none, some (.aload_n 0, 1, 0, 0), some (.getfield 10, 3, 200, 9), none, none, some (.getfield 193, 3, 12, 5), none, none, some (.iload_n 2, 1, 0, 0), some (.iload_n 3, 1, 0, 0), some (.invokevirtual 208, 3, 32, 4), none, none, some (.aload_n 0, 1, 0, 0), some (.getfield 29, 3, 204, 9), none, none, some (.aload 6, 2, 0, 0), none, some (.iconst (-1), 1, 0, 0), some (.invokevirtual 211, 3, 33, 2), none, none, some (.aload_n 0, 1, 0, 0), some (.getfield 29, 3, 204, 9), none, none, some (.iload 4, 2, 0, 0), none, some (.invokevirtual 215, 3, 34, 1), none, none, some (.istore 7, 2, 0, 0), none, some (.iload 5, 2, 0, 0), none, some (.iconst (-1), 1, 0, 0), some (.if_icmp .ne 14, 3, 110, 0), none, none, some (.iload 7, 2, 0, 0), none, some (.ifCond .ne 7, 3, 108, 0), none, none, some (.iconst 1, 1, 0, 0), some (.goto 4, 3, 109, 0), none, none, some (.iconst 0, 1, 0, 0), some (.ireturn, 1, 0, 0), some (.iload 5, 2, 0, 0), none, some (.bipush (-2), 2, 0, 0), none, some (.if_icmp .ne 6, 3, 120, 0), none, none, some (.iload 7, 2, 0, 0), none, some (.ireturn, 1, 0, 0), some (.iload 5, 2, 0, 0), none, some (.iload 7, 2, 0, 0), none, some (.if_icmp .ge 16, 3, 140, 0), none, none, some (.aload_n 0, 1, 0, 0), some (.getfield 29, 3, 204, 9), none, none, some (.getfield 218, 3, 209, 4), none, none, some (.iload 5, 2, 0, 0), none, some (.iaload, 1, 0, 0), some (.goto 4, 3, 141, 0), none, none, some (.iconst (-1), 1, 0, 0), some (.ireturn, 1, 0, 0)]
def tb_X9_ways : List (Option m_E) := [some (.aload_n 0, 1, 0, 0), some (.getfield 10, 3, 200, 9), none, none, some (.iload_n 1, 1, 0, 0), some (.invokevirtual 55, 3, 43, 1), none, none, some (.astore 5, 2, 0, 0), none, some (.aload_n 0, 1, 0, 0), some (.getfield 10, 3, 200, 9), none, none, some (.iload_n 2, 1, 0, 0), some (.invokevirtual 55, 3, 43, 1), none, none, some (.astore 6, 2, 0, 0), none, some (.aload 5, 2, 0, 0), none, some (.ifnull 14, 3, 36, 0), none, none, some (.aload 6, 2, 0, 0), none, some (.ifnull 9, 3, 36, 0), none, none, some (.iload 4, 2, 0, 0), none, some (.iconst (-1), 1, 0, 0), some (.if_icmp .ge 5, 3, 38, 0), none, none, some (.iconst (-1), 1, 0, 0), some (.ireturn, 1, 0, 0), some (.iload_n 3, 1, 0, 0), some (.invokestatic 205, 3, 102, 1), none, none, some (.ifCond .ne 6, 3, 48, 0), none, none, some (.bipush (-2), 2, 0, 0), none, some (.ireturn, 1, 0, 0), some (.aload_n 0, 1, 0, 0), some (.getfield 29, 3, 204, 9), none, none, some (.aload_n 0, 1, 0, 0), some (.getfield 10, 3, 200, 9), none, none, some (.getfield 196, 3, 211, 5), none, none, some (.aload_n 0, 1, 0, 0), some (.getfield 10, 3, 200, 9), none, none, some (.getfield 193, 3, 12, 5), none, none, some (.iconst (-1), 1, 0, 0), some (.iconst 0, 1, 0, 0), some (.invokevirtual 208, 3, 32, 4), none, none, some (.aload_n 0, 1, 0, 0), some (.getfield 29, 3, 204, 9), none, none, some (.aload 5, 2, 0, 0), none, some (.iconst (-1), 1, 0, 0), some (.invokevirtual 211, 3, 33, 2), none, none, some (.aload_n 0, 1, 0, 0), some (.getfield 29, 3, 204, 9), none, none, some (.aload 6, 2, 0, 0), none, some (.iconst (-1), 1, 0, 0), some (.invokevirtual 211, 3, 33, 2), none, none, some (.aload_n 0, 1, 0, 0), some (.getfield 29, 3, 204, 9), none, none, some (.iload_n 3, 1, 0, 0), some (.invokevirtual 215, 3, 34, 1), none, none, some (.istore 7, 2, 0, 0), none, some (.iload 4, 2, 0, 0), none, some (.iconst (-1), 1, 0, 0), some (.if_icmp .ne 6, 3, 110, 0), none, none, some (.iload 7, 2, 0, 0), none, some (.ireturn, 1, 0, 0), some (.iload 4, 2, 0, 0), none, some (.iload 7, 2, 0, 0), none, some (.if_icmp .ge 16, 3, 130, 0), none, none, some (.aload_n 0, 1, 0, 0), some (.getfield 29, 3, 204, 9), none, none, some (.getfield 218, 3, 209, 4), none, none, some (.iload 4, 2, 0, 0), none, some (.iaload, 1, 0, 0), some (.goto 4, 3, 131, 0), none, none, some (.iconst (-1), 1, 0, 0), some (.ireturn, 1, 0, 0)]
def tb_X9_orders : List (Option m_E) := [some (.iload_n 2, 1, 0, 0), some (.invokestatic 199, 3, 101, 1), none, none, some (.ifCond .eq 9, 3, 13, 0), none, none, some (.iload 5, 2, 0, 0), none, some (.iconst (-1), 1, 0, 0), some (.if_icmp .ge 5, 3, 15, 0), none, none, some (.iconst (-1), 1, 0, 0), some (.ireturn, 1, 0, 0), some (.iload_n 1, 1, 0, 0), some (.invokestatic 170, 3, 179, 1), none, none, some (.istore 6, 2, 0, 0), none, some (.iload_n 1, 1, 0, 0), some (.aload_n 0, 1, 0, 0), some (.getfield 10, 3, 200, 9), none, none, some (.getfield 73, 3, 5, 5), none, none, some (.iushr, 1, 0, 0), some (.ifCond .ne 15, 3, 45, 0), none, none, some (.iload 6, 2, 0, 0), none, some (.iconst 2, 1, 0, 0), some (.if_icmp .lt 9, 3, 45, 0), none, none, some (.iload 6, 2, 0, 0), none, some (.iconst 4, 1, 0, 0), some (.if_icmp .le 6, 3, 48, 0), none, none, some (.bipush (-2), 2, 0, 0), none, some (.ireturn, 1, 0, 0), some (.iload_n 3, 1, 0, 0), some (.invokestatic 202, 3, 100, 1), none, none, some (.ifCond .eq 11, 3, 63, 0), none, none, some (.iload 4, 2, 0, 0), none, some (.invokestatic 205, 3, 102, 1), none, none, some (.ifCond .ne 6, 3, 66, 0), none, none, some (.bipush (-2), 2, 0, 0), none, some (.ireturn, 1, 0, 0), some (.aload_n 0, 1, 0, 0), some (.getfield 29, 3, 204, 9), none, none, some (.aload_n 0, 1, 0, 0), some (.getfield 10, 3, 200, 9), none, none, some (.getfield 196, 3, 211, 5), none, none, some (.aload_n 0, 1, 0, 0), some (.getfield 10, 3, 200, 9), none, none, some (.getfield 193, 3, 12, 5), none, none, some (.iload_n 2, 1, 0, 0), some (.iload_n 3, 1, 0, 0), some (.invokevirtual 208, 3, 32, 4), none, none, some (.iconst 0, 1, 0, 0), some (.istore 7, 2, 0, 0), none, some (.iload 7, 2, 0, 0), none, some (.aload_n 0, 1, 0, 0), some (.getfield 10, 3, 200, 9), none, none, some (.getfield 73, 3, 5, 5), none, none, some (.if_icmp .ge 47, 3, 148, 0), none, none, some (.iload_n 1, 1, 0, 0), some (.iconst 1, 1, 0, 0), some (.iload 7, 2, 0, 0), none, some (.ishl, 1, 0, 0), some (.iand, 1, 0, 0), some (.ifCond .eq 32, 3, 142, 0), none, none, some (.aload_n 0, 1, 0, 0), some (.getfield 29, 3, 204, 9), none, none, some (.aload_n 0, 1, 0, 0), some (.getfield 10, 3, 200, 9), none, none, some (.aload_n 0, 1, 0, 0), some (.getfield 10, 3, 200, 9), none, none, some (.getfield 76, 3, 204, 5), none, none, some (.iload 7, 2, 0, 0), none, some (.aaload, 1, 0, 0), some (.getfield 99, 3, 2, 0), none, none, some (.invokevirtual 55, 3, 43, 1), none, none, some (.iload 7, 2, 0, 0), none, some (.invokevirtual 211, 3, 33, 2), none, none, some (.iinc 7 1, 3, 0, 0), none, none, some (.goto (-53), 3, 92, 0), none, none, some (.iconst 0, 1, 0, 0), some (.istore 7, 2, 0, 0), none, some (.iconst 1, 1, 0, 0), some (.istore 8, 2, 0, 0), none, some (.iconst 0, 1, 0, 0), some (.istore 9, 2, 0, 0), none, some (.iload 9, 2, 0, 0), none, some (.bipush 24, 2, 0, 0), none, some (.if_icmp .ge 65, 3, 226, 0), none, none, some (.iload 8, 2, 0, 0), none, some (.ifCond .eq 60, 3, 226, 0), none, none, some (.aload_n 0, 1, 0, 0), some (.getfield 29, 3, 204, 9), none, none, some (.iload 4, 2, 0, 0), none, some (.invokevirtual 215, 3, 34, 1), none, none, some (.ifCond .ne 33, 3, 211, 0), none, none, some (.iload 5, 2, 0, 0), none, some (.ifCond .lt 25, 3, 208, 0), none, none, some (.iload 5, 2, 0, 0), none, some (.iload 6, 2, 0, 0), none, some (.if_icmp .ge 16, 3, 206, 0), none, none, some (.aload_n 0, 1, 0, 0), some (.getfield 29, 3, 204, 9), none, none, some (.getfield 219, 3, 203, 4), none, none, some (.iload 5, 2, 0, 0), none, some (.iaload, 1, 0, 0), some (.goto 4, 3, 207, 0), none, none, some (.iconst (-1), 1, 0, 0), some (.ireturn, 1, 0, 0), some (.iinc 7 1, 3, 0, 0), none, none, some (.aload_n 0, 1, 0, 0), some (.getfield 29, 3, 204, 9), none, none, some (.invokevirtual 221, 3, 39, 0), none, none, some (.istore 8, 2, 0, 0), none, some (.iinc 9 1, 3, 0, 0), none, none, some (.goto (-66), 3, 157, 0), none, none, some (.iload 5, 2, 0, 0), none, some (.iconst (-1), 1, 0, 0), some (.if_icmp .ne 8, 3, 237, 0), none, none, some (.iload 7, 2, 0, 0), none, some (.goto 4, 3, 238, 0), none, none, some (.iconst (-1), 1, 0, 0), some (.ireturn, 1, 0, 0)]
def tb_X9_act : List (Option m_E) := [some (.aload_n 0, 1, 0, 0), some (.getfield 10, 3, 200, 9), none, none, some (.iload_n 1, 1, 0, 0), some (.invokevirtual 86, 3, 44, 1), none, none, some (.astore 4, 2, 0, 0), none, some (.aload 4, 2, 0, 0), none, some (.ifnonnull 7, 3, 19, 0), none, none, some (.aconst_null, 1, 0, 0), some (.goto 15, 3, 31, 0), none, none, some (.aload_n 0, 1, 0, 0), some (.getfield 10, 3, 200, 9), none, none, some (.aload 4, 2, 0, 0), none, some (.getfield 99, 3, 2, 0), none, none, some (.invokevirtual 55, 3, 43, 1), none, none, some (.astore 5, 2, 0, 0), none, some (.aload_n 0, 1, 0, 0), some (.getfield 10, 3, 200, 9), none, none, some (.getfield 225, 3, 213, 5), none, none, some (.iconst 0, 1, 0, 0), some (.putfield 229, 3, 1, 7), none, none, some (.aload 5, 2, 0, 0), none, some (.ifnull 12, 3, 58, 0), none, none, some (.iload_n 2, 1, 0, 0), some (.ifCond .lt 8, 3, 58, 0), none, none, some (.iload_n 2, 1, 0, 0), some (.iconst 3, 1, 0, 0), some (.if_icmp .lt 5, 3, 60, 0), none, none, some (.iconst 0, 1, 0, 0), some (.ireturn, 1, 0, 0), some (.aload_n 0, 1, 0, 0), some (.getfield 10, 3, 200, 9), none, none, some (.getfield 225, 3, 213, 5), none, none, some (.aload 4, 2, 0, 0), none, some (.aload 5, 2, 0, 0), none, some (.getfield 59, 3, 0, 6), none, none, some (.iload_n 2, 1, 0, 0), some (.iload_n 3, 1, 0, 0), some (.invokevirtual 234, 3, 61, 4), none, none, some (.ireturn, 1, 0, 0)]
def tb_X9_trace : List (Option m_E) := [some (.iload_n 1, 1, 0, 0), some (.ifCond .lt 23, 3, 24, 0), none, none, some (.iload_n 1, 1, 0, 0), some (.aload_n 0, 1, 0, 0), some (.getfield 10, 3, 200, 9), none, none, some (.getfield 225, 3, 213, 5), none, none, some (.getfield 229, 3, 1, 7), none, none, some (.if_icmp .ge 9, 3, 24, 0), none, none, some (.iload_n 1, 1, 0, 0), some (.bipush 20, 2, 0, 0), none, some (.if_icmp .lt 7, 3, 28, 0), none, none, some (.iconst (-1), 1, 0, 0), some (.goto 15, 3, 40, 0), none, none, some (.aload_n 0, 1, 0, 0), some (.getfield 10, 3, 200, 9), none, none, some (.getfield 225, 3, 213, 5), none, none, some (.getfield 238, 3, 200, 7), none, none, some (.iload_n 1, 1, 0, 0), some (.iaload, 1, 0, 0), some (.ireturn, 1, 0, 0)]
def tb_X9_as : List (Option m_E) := [some (.aload_n 0, 1, 0, 0), some (.getfield 10, 3, 200, 9), none, none, some (.iload_n 1, 1, 0, 0), some (.invokevirtual 86, 3, 44, 1), none, none, some (.astore_n 3, 1, 0, 0), some (.aload_n 3, 1, 0, 0), some (.ifnull 13, 3, 23, 0), none, none, some (.iload_n 2, 1, 0, 0), some (.ifCond .lt 9, 3, 23, 0), none, none, some (.iload_n 2, 1, 0, 0), some (.bipush 7, 2, 0, 0), none, some (.if_icmp .lt 5, 3, 25, 0), none, none, some (.iconst (-1), 1, 0, 0), some (.ireturn, 1, 0, 0), some (.aload_n 3, 1, 0, 0), some (.getfield 241, 3, 1, 0), none, none, some (.istore 4, 2, 0, 0), none, some (.iconst 0, 1, 0, 0), some (.istore 5, 2, 0, 0), none, some (.iload 5, 2, 0, 0), none, some (.bipush 7, 2, 0, 0), none, some (.if_icmp .ge 28, 3, 66, 0), none, none, some (.iload 4, 2, 0, 0), none, some (.ifCond .le 23, 3, 66, 0), none, none, some (.iload 4, 2, 0, 0), none, some (.iload_n 2, 1, 0, 0), some (.if_icmp .eq 17, 3, 66, 0), none, none, some (.getstatic 244, 3, 0, 2), none, none, some (.iload 4, 2, 0, 0), none, some (.iaload, 1, 0, 0), some (.istore 4, 2, 0, 0), none, some (.iinc 5 1, 3, 0, 0), none, none, some (.goto (-29), 3, 34, 0), none, none, some (.iload 4, 2, 0, 0), none, some (.iload_n 2, 1, 0, 0), some (.if_icmp .ne 10, 3, 79, 0), none, none, some (.aload_n 3, 1, 0, 0), some (.getfield 99, 3, 2, 0), none, none, some (.goto 5, 3, 81, 0), none, none, some (.bipush (-6), 2, 0, 0), none, some (.ireturn, 1, 0, 0)]
def tb_X9_image : List (Option m_E) := [some (.aload_n 0, 1, 0, 0), some (.getfield 16, 3, 201, 9), none, none, some (.aload_n 0, 1, 0, 0), some (.getfield 10, 3, 200, 9), none, none, some (.invokevirtual 247, 3, 42, 1), none, none, some (.aload_n 0, 1, 0, 0), some (.iconst 1, 1, 0, 0), some (.putfield 250, 3, 102, 9), none, none, some (.aload_n 0, 1, 0, 0), some (.getfield 10, 3, 200, 9), none, none, some (.getfield 73, 3, 5, 5), none, none, some (.ireturn, 1, 0, 0)]
def tb_X9_undo : List (Option m_E) := [some (.aload_n 0, 1, 0, 0), some (.getfield 250, 3, 102, 9), none, none, some (.ifCond .ne 6, 3, 10, 0), none, none, some (.bipush (-3), 2, 0, 0), none, some (.ireturn, 1, 0, 0), some (.aload_n 0, 1, 0, 0), some (.getfield 10, 3, 200, 9), none, none, some (.aload_n 0, 1, 0, 0), some (.getfield 16, 3, 201, 9), none, none, some (.invokevirtual 247, 3, 42, 1), none, none, some (.aload_n 0, 1, 0, 0), some (.getfield 10, 3, 200, 9), none, none, some (.getfield 73, 3, 5, 5), none, none, some (.ireturn, 1, 0, 0)]
def tb_X9_count : List (Option m_E) := [some (.iload_n 1, 1, 0, 0), some (.tableswitch 114 0 7 #[47, 55, 63, 71, 79, 87, 95, 103], 47, 0, 0), none, none, none, none, none, none, none, none, none, none, none, none, none, none, none, none, none, none, none, none, none, none, none, none, none, none, none, none, none, none, none, none, none, none, none, none, none, none, none, none, none, none, none, none, none, none, some (.aload_n 0, 1, 0, 0), some (.getfield 10, 3, 200, 9), none, none, some (.getfield 41, 3, 3, 5), none, none, some (.ireturn, 1, 0, 0), some (.aload_n 0, 1, 0, 0), some (.getfield 10, 3, 200, 9), none, none, some (.getfield 73, 3, 5, 5), none, none, some (.ireturn, 1, 0, 0), some (.aload_n 0, 1, 0, 0), some (.getfield 10, 3, 200, 9), none, none, some (.getfield 127, 3, 7, 5), none, none, some (.ireturn, 1, 0, 0), some (.aload_n 0, 1, 0, 0), some (.getfield 10, 3, 200, 9), none, none, some (.getfield 139, 3, 9, 5), none, none, some (.ireturn, 1, 0, 0), some (.aload_n 0, 1, 0, 0), some (.getfield 10, 3, 200, 9), none, none, some (.getfield 136, 3, 10, 5), none, none, some (.ireturn, 1, 0, 0), some (.aload_n 0, 1, 0, 0), some (.getfield 10, 3, 200, 9), none, none, some (.getfield 193, 3, 12, 5), none, none, some (.ireturn, 1, 0, 0), some (.aload_n 0, 1, 0, 0), some (.getfield 10, 3, 200, 9), none, none, some (.getfield 33, 3, 1, 5), none, none, some (.ireturn, 1, 0, 0), some (.aload_n 0, 1, 0, 0), some (.getfield 10, 3, 200, 9), none, none, some (.getfield 225, 3, 213, 5), none, none, some (.getfield 229, 3, 1, 7), none, none, some (.ireturn, 1, 0, 0), some (.iconst (-1), 1, 0, 0), some (.ireturn, 1, 0, 0)]
def tb_X9_refusalOf : List (Option m_E) := [some (.iload_n 0, 1, 0, 0), some (.invokestatic 107, 3, 98, 1), none, none, some (.ifCond .eq 21, 3, 25, 0), none, none, some (.iload_n 1, 1, 0, 0), some (.ifCond .lt 17, 3, 25, 0), none, none, some (.iload_n 1, 1, 0, 0), some (.iconst 4, 1, 0, 0), some (.if_icmp .ge 12, 3, 25, 0), none, none, some (.iload_n 2, 1, 0, 0), some (.ifCond .lt 8, 3, 25, 0), none, none, some (.iload_n 2, 1, 0, 0), some (.iconst 4, 1, 0, 0), some (.if_icmp .lt 5, 3, 27, 0), none, none, some (.iconst (-1), 1, 0, 0), some (.ireturn, 1, 0, 0), some (.iload_n 3, 1, 0, 0), some (.invokestatic 202, 3, 100, 1), none, none, some (.ifCond .eq 7, 3, 38, 0), none, none, some (.iconst 0, 1, 0, 0), some (.goto 5, 3, 40, 0), none, none, some (.bipush (-2), 2, 0, 0), none, some (.ireturn, 1, 0, 0)]
def tb_X9_isTalk : List (Option m_E) := [some (.iload_n 0, 1, 0, 0), some (.ifCond .lt 13, 3, 14, 0), none, none, some (.iload_n 0, 1, 0, 0), some (.bipush 16, 2, 0, 0), none, some (.if_icmp .ge 7, 3, 14, 0), none, none, some (.iconst 1, 1, 0, 0), some (.goto 4, 3, 15, 0), none, none, some (.iconst 0, 1, 0, 0), some (.ireturn, 1, 0, 1)]
def tb_X9_areTalks : List (Option m_E) := [some (.iload_n 0, 1, 0, 0), some (.ifCond .lt 13, 3, 14, 0), none, none, some (.iload_n 0, 1, 0, 0), some (.ldc 254, 2, 65535, 0), none, some (.if_icmp .gt 7, 3, 14, 0), none, none, some (.iconst 1, 1, 0, 0), some (.goto 4, 3, 15, 0), none, none, some (.iconst 0, 1, 0, 0), some (.ireturn, 1, 0, 1)]
def tb_X9_isN : List (Option m_E) := [some (.iload_n 0, 1, 0, 0), some (.ifCond .lt 13, 3, 14, 0), none, none, some (.iload_n 0, 1, 0, 0), some (.bipush 99, 2, 0, 0), none, some (.if_icmp .gt 7, 3, 14, 0), none, none, some (.iconst 1, 1, 0, 0), some (.goto 4, 3, 15, 0), none, none, some (.iconst 0, 1, 0, 0), some (.ireturn, 1, 0, 1)]
def tb_X9_isForm : List (Option m_E) := [some (.iload_n 0, 1, 0, 0), some (.ifCond .lt 12, 3, 13, 0), none, none, some (.iload_n 0, 1, 0, 0), some (.iconst 5, 1, 0, 0), some (.if_icmp .ge 7, 3, 13, 0), none, none, some (.iconst 1, 1, 0, 0), some (.goto 4, 3, 14, 0), none, none, some (.iconst 0, 1, 0, 0), some (.ireturn, 1, 0, 1)]
def tb_X9_isDepth : List (Option m_E) := [some (.iload_n 0, 1, 0, 0), some (.iconst 1, 1, 0, 0), some (.if_icmp .lt 12, 3, 14, 0), none, none, some (.iload_n 0, 1, 0, 0), some (.iconst 3, 1, 0, 0), some (.if_icmp .gt 7, 3, 14, 0), none, none, some (.iconst 1, 1, 0, 0), some (.goto 4, 3, 15, 0), none, none, some (.iconst 0, 1, 0, 0), some (.ireturn, 1, 0, 1)]
def tb_X9_placeOf : List (Option m_E) := [some (.iload_n 0, 1, 0, 0), some (.iconst 4, 1, 0, 0), some (.if_icmp .ge 9, 3, 11, 0), none, none, some (.iload_n 1, 1, 0, 0), some (.iconst 4, 1, 0, 0), some (.imul, 1, 0, 0), some (.iload_n 0, 1, 0, 0), some (.iadd, 1, 0, 0), some (.ireturn, 1, 0, 0), some (.iload_n 0, 1, 0, 0), some (.bipush 8, 2, 0, 0), none, some (.if_icmp .ge 14, 3, 28, 0), none, none, some (.bipush 64, 2, 0, 0), none, some (.iload_n 2, 1, 0, 0), some (.iconst 4, 1, 0, 0), some (.imul, 1, 0, 0), some (.iadd, 1, 0, 0), some (.iload_n 0, 1, 0, 0), some (.iadd, 1, 0, 0), some (.iconst 4, 1, 0, 0), some (.isub, 1, 0, 0), some (.ireturn, 1, 0, 0), some (.bipush 80, 2, 0, 0), none, some (.iload_n 0, 1, 0, 0), some (.iadd, 1, 0, 0), some (.bipush 8, 2, 0, 0), none, some (.isub, 1, 0, 0), some (.ireturn, 1, 0, 0)]
def tb_X10_init : List (Option m_E) := [some (.aload_n 0, 1, 0, 0), some (.invokespecial 3, 3, 9998, 0), none, none, some (.aload_n 0, 1, 0, 0), some (.sipush 1800, 3, 0, 0), none, none, some (.newarray .int, 2, 0, 20), none, some (.putfield 9, 3, 201, 10), none, none, some (.aload_n 0, 1, 0, 0), some (.sipush 1800, 3, 0, 0), none, none, some (.newarray .int, 2, 0, 20), none, some (.putfield 15, 3, 202, 10), none, none, some (.aload_n 0, 1, 0, 0), some (.sipush 1600, 3, 0, 0), none, none, some (.newarray .int, 2, 0, 20), none, some (.putfield 18, 3, 204, 10), none, none, some (.aload_n 0, 1, 0, 0), some (.bipush 8, 2, 0, 0), none, some (.newarray .int, 2, 0, 20), none, some (.putfield 21, 3, 205, 10), none, none, some (.aload_n 0, 1, 0, 0), some (.bipush 8, 2, 0, 0), none, some (.newarray .int, 2, 0, 20), none, some (.putfield 24, 3, 206, 10), none, none, some (.aload_n 0, 1, 0, 0), some (.bipush 64, 2, 0, 0), none, some (.newarray .int, 2, 0, 20), none, some (.putfield 27, 3, 207, 10), none, none, some (.aload_n 0, 1, 0, 0), some (.bipush 64, 2, 0, 0), none, some (.newarray .int, 2, 0, 20), none, some (.putfield 30, 3, 208, 10), none, none, some (.aload_n 0, 1, 0, 0), some (.sipush 336, 3, 0, 0), none, none, some (.newarray .int, 2, 0, 20), none, some (.putfield 33, 3, 215, 10), none, none, some (.aload_n 0, 1, 0, 0), some (.bipush 80, 2, 0, 0), none, some (.newarray .boolean, 2, 0, 21), none, some (.putfield 36, 3, 216, 10), none, none, some (.aload_n 0, 1, 0, 0), some (.iconst 3, 1, 0, 0), some (.newarray .int, 2, 0, 20), none, some (.putfield 40, 3, 224, 10), none, none, some (.aload_n 0, 1, 0, 0), some (.iconst 3, 1, 0, 0), some (.newarray .int, 2, 0, 20), none, some (.putfield 43, 3, 225, 10), none, none, some (.aload_n 0, 1, 0, 0), some (.iconst 4, 1, 0, 0), some (.newarray .int, 2, 0, 20), none, some (.putfield 46, 3, 226, 10), none, none, some (.aload_n 0, 1, 0, 0), some (.bipush 16, 2, 0, 0), none, some (.newarray .boolean, 2, 0, 21), none, some (.putfield 49, 3, 228, 10), none, none, some (.aload_n 0, 1, 0, 0), some (.bipush 16, 2, 0, 0), none, some (.newarray .boolean, 2, 0, 21), none, some (.putfield 52, 3, 229, 10), none, none, some (.aload_n 0, 1, 0, 0), some (.bipush 16, 2, 0, 0), none, some (.newarray .boolean, 2, 0, 21), none, some (.putfield 55, 3, 230, 10), none, none, some (.aload_n 0, 1, 0, 0), some (.bipush 16, 2, 0, 0), none, some (.newarray .int, 2, 0, 20), none, some (.putfield 58, 3, 231, 10), none, none, some (.aload_n 0, 1, 0, 0), some (.bipush 16, 2, 0, 0), none, some (.newarray .int, 2, 0, 20), none, some (.putfield 61, 3, 232, 10), none, none, some (.aload_n 0, 1, 0, 0), some (.bipush 16, 2, 0, 0), none, some (.newarray .int, 2, 0, 20), none, some (.putfield 64, 3, 233, 10), none, none, some (.aload_n 0, 1, 0, 0), some (.iconst 4, 1, 0, 0), some (.newarray .int, 2, 0, 20), none, some (.putfield 67, 3, 234, 10), none, none, some (.aload_n 0, 1, 0, 0), some (.iconst 4, 1, 0, 0), some (.newarray .int, 2, 0, 20), none, some (.putfield 70, 3, 235, 10), none, none, some (.aload_n 0, 1, 0, 0), some (.iconst 4, 1, 0, 0), some (.newarray .int, 2, 0, 20), none, some (.putfield 73, 3, 236, 10), none, none, some (.aload_n 0, 1, 0, 0), some (.bipush 20, 2, 0, 0), none, some (.newarray .int, 2, 0, 20), none, some (.putfield 76, 3, 239, 10), none, none, some (.return_, 1, 0, 0)]
def tb_X10_in : List (Option m_E) := [some (.iload_n 0, 1, 0, 0), some (.iload_n 1, 1, 0, 0), some (.if_icmp .lt 12, 3, 14, 0), none, none, some (.iload_n 0, 1, 0, 0), some (.iload_n 2, 1, 0, 0), some (.if_icmp .gt 7, 3, 14, 0), none, none, some (.iconst 1, 1, 0, 0), some (.goto 4, 3, 15, 0), none, none, some (.iconst 0, 1, 0, 0), some (.ireturn, 1, 0, 1)]
def tb_X10_isText : List (Option m_E) := [some (.iload_n 1, 1, 0, 0), some (.iconst 0, 1, 0, 0), some (.aload_n 0, 1, 0, 0), some (.getfield 9, 3, 201, 10), none, none, some (.iconst 0, 1, 0, 0), some (.iaload, 1, 0, 0), some (.iconst 1, 1, 0, 0), some (.isub, 1, 0, 0), some (.invokestatic 83, 3, 105, 3), none, none, some (.ireturn, 1, 0, 1)]
def tb_X10_isBox : List (Option m_E) := [some (.iload_n 1, 1, 0, 0), some (.iconst 0, 1, 0, 0), some (.aload_n 0, 1, 0, 0), some (.getfield 9, 3, 201, 10), none, none, some (.iconst 1, 1, 0, 0), some (.iaload, 1, 0, 0), some (.iconst 1, 1, 0, 0), some (.isub, 1, 0, 0), some (.invokestatic 83, 3, 105, 3), none, none, some (.ireturn, 1, 0, 1)]
def tb_X10_isTalk : List (Option m_E) := [some (.iload_n 0, 1, 0, 0), some (.iconst 0, 1, 0, 0), some (.bipush 15, 2, 0, 0), none, some (.invokestatic 83, 3, 105, 3), none, none, some (.ireturn, 1, 0, 1)]
def tb_X10_isFour : List (Option m_E) := [some (.iload_n 0, 1, 0, 0), some (.iconst 0, 1, 0, 0), some (.iconst 3, 1, 0, 0), some (.invokestatic 83, 3, 105, 3), none, none, some (.ireturn, 1, 0, 1)]
def tb_X10_count1 : List (Option m_E) := [some (.iconst 0, 1, 0, 0), some (.istore_n 1, 1, 0, 0), some (.iconst 0, 1, 0, 0), some (.istore_n 2, 1, 0, 0), some (.iload_n 2, 1, 0, 0), some (.bipush 16, 2, 0, 0), none, some (.if_icmp .ge 17, 3, 24, 0), none, none, some (.iload_n 1, 1, 0, 0), some (.iload_n 0, 1, 0, 0), some (.iload_n 2, 1, 0, 0), some (.ishr, 1, 0, 0), some (.iconst 1, 1, 0, 0), some (.iand, 1, 0, 0), some (.iadd, 1, 0, 0), some (.istore_n 1, 1, 0, 0), some (.iinc 2 1, 3, 0, 0), none, none, some (.goto (-17), 3, 4, 0), none, none, some (.iload_n 1, 1, 0, 0), some (.ireturn, 1, 0, 0)]
def tb_X10_feed : List (Option m_E) := [some (.iload_n 3, 1, 0, 0), some (.iconst 1, 1, 0, 0), some (.bipush 8, 2, 0, 0), none, some (.invokestatic 83, 3, 105, 3), none, none, some (.ifCond .ne 6, 3, 13, 0), none, none, some (.bipush (-2), 2, 0, 0), none, some (.ireturn, 1, 0, 0), some (.aload_n 0, 1, 0, 0), some (.getfield 9, 3, 201, 10), none, none, some (.bipush 6, 2, 0, 0), none, some (.iaload, 1, 0, 0), some (.iload_n 3, 1, 0, 0), some (.iadd, 1, 0, 0), some (.sipush 160, 3, 0, 0), none, none, some (.if_icmp .le 6, 3, 31, 0), none, none, some (.bipush (-4), 2, 0, 0), none, some (.ireturn, 1, 0, 0), some (.iload_n 3, 1, 0, 0), some (.iconst 1, 1, 0, 0), some (.isub, 1, 0, 0), some (.istore 4, 2, 0, 0), none, some (.iload 4, 2, 0, 0), none, some (.ifCond .lt 47, 3, 85, 0), none, none, some (.aload_n 0, 1, 0, 0), some (.getfield 9, 3, 201, 10), none, none, some (.bipush 10, 2, 0, 0), none, some (.aload_n 0, 1, 0, 0), some (.getfield 9, 3, 201, 10), none, none, some (.bipush 6, 2, 0, 0), none, some (.iaload, 1, 0, 0), some (.iadd, 1, 0, 0), some (.lload_n 1, 1, 0, 0), some (.bipush 8, 2, 0, 0), none, some (.iload 4, 2, 0, 0), none, some (.imul, 1, 0, 0), some (.lshr, 1, 0, 0), some (.ldc2_w 87, 3, 255, 0), none, none, some (.land, 1, 0, 0), some (.l2i, 1, 0, 0), some (.iastore, 1, 0, 0), some (.aload_n 0, 1, 0, 0), some (.getfield 9, 3, 201, 10), none, none, some (.bipush 6, 2, 0, 0), none, some (.dup2, 1, 0, 0), some (.iaload, 1, 0, 0), some (.iconst 1, 1, 0, 0), some (.iadd, 1, 0, 0), some (.iastore, 1, 0, 0), some (.iinc 4 (-1), 3, 0, 0), none, none, some (.goto (-46), 3, 36, 0), none, none, some (.aload_n 0, 1, 0, 0), some (.getfield 9, 3, 201, 10), none, none, some (.bipush 6, 2, 0, 0), none, some (.iaload, 1, 0, 0), some (.ireturn, 1, 0, 0)]
def tb_X10_here : List (Option m_E) := [some (.aload_n 0, 1, 0, 0), some (.getfield 89, 3, 10, 10), none, none, some (.aload_n 0, 1, 0, 0), some (.getfield 92, 3, 11, 10), none, none, some (.if_icmp .ge 18, 3, 26, 0), none, none, some (.aload_n 0, 1, 0, 0), some (.getfield 9, 3, 201, 10), none, none, some (.bipush 10, 2, 0, 0), none, some (.aload_n 0, 1, 0, 0), some (.getfield 89, 3, 10, 10), none, none, some (.iadd, 1, 0, 0), some (.iaload, 1, 0, 0), some (.goto 4, 3, 27, 0), none, none, some (.iconst (-1), 1, 0, 0), some (.ireturn, 1, 0, 0)]
def tb_X10_must : List (Option m_E) := [some (.aload_n 0, 1, 0, 0), some (.aload_n 0, 1, 0, 0), some (.getfield 95, 3, 112, 10), none, none, some (.ifCond .ne 11, 3, 16, 0), none, none, some (.aload_n 0, 1, 0, 0), some (.invokevirtual 99, 3, 112, 0), none, none, some (.iload_n 1, 1, 0, 0), some (.if_icmp .eq 7, 3, 20, 0), none, none, some (.iconst 1, 1, 0, 0), some (.goto 4, 3, 21, 0), none, none, some (.iconst 0, 1, 0, 0), some (.putfield 95, 3, 112, 10), none, none, some (.aload_n 0, 1, 0, 0), some (.dup, 1, 0, 0), some (.getfield 89, 3, 10, 10), none, none, some (.aload_n 0, 1, 0, 0), some (.getfield 95, 3, 112, 10), none, none, some (.ifCond .eq 7, 3, 40, 0), none, none, some (.iconst 0, 1, 0, 0), some (.goto 4, 3, 41, 0), none, none, some (.iconst 1, 1, 0, 0), some (.iadd, 1, 0, 0), some (.putfield 89, 3, 10, 10), none, none, some (.return_, 1, 0, 0)]
def tb_X10_emits : List (Option m_E) := [some (.aload_n 0, 1, 0, 0), some (.getfield 95, 3, 112, 10), none, none, some (.ifCond .ne 40, 3, 44, 0), none, none, some (.aload_n 0, 1, 0, 0), some (.getfield 18, 3, 204, 10), none, none, some (.sipush 200, 3, 0, 0), none, none, some (.aload_n 0, 1, 0, 0), some (.getfield 103, 3, 9, 10), none, none, some (.imul, 1, 0, 0), some (.aload_n 0, 1, 0, 0), some (.getfield 21, 3, 205, 10), none, none, some (.aload_n 0, 1, 0, 0), some (.getfield 103, 3, 9, 10), none, none, some (.iaload, 1, 0, 0), some (.iadd, 1, 0, 0), some (.iload_n 1, 1, 0, 0), some (.iastore, 1, 0, 0), some (.aload_n 0, 1, 0, 0), some (.getfield 21, 3, 205, 10), none, none, some (.aload_n 0, 1, 0, 0), some (.getfield 103, 3, 9, 10), none, none, some (.dup2, 1, 0, 0), some (.iaload, 1, 0, 0), some (.iconst 1, 1, 0, 0), some (.iadd, 1, 0, 0), some (.iastore, 1, 0, 0), some (.return_, 1, 0, 0)]
def tb_X10_marks : List (Option m_E) := [some (.aload_n 0, 1, 0, 0), some (.getfield 95, 3, 112, 10), none, none, some (.ifCond .ne 78, 3, 82, 0), none, none, some (.iload_n 1, 1, 0, 0), some (.bipush 120, 2, 0, 0), none, some (.if_icmp .lt 72, 3, 82, 0), none, none, some (.bipush 8, 2, 0, 0), none, some (.aload_n 0, 1, 0, 0), some (.getfield 103, 3, 9, 10), none, none, some (.imul, 1, 0, 0), some (.iload_n 1, 1, 0, 0), some (.sipush 130, 3, 0, 0), none, none, some (.if_icmp .lt 13, 3, 37, 0), none, none, some (.iconst 4, 1, 0, 0), some (.iload_n 1, 1, 0, 0), some (.iadd, 1, 0, 0), some (.sipush 130, 3, 0, 0), none, none, some (.isub, 1, 0, 0), some (.goto 7, 3, 41, 0), none, none, some (.iload_n 1, 1, 0, 0), some (.bipush 120, 2, 0, 0), none, some (.isub, 1, 0, 0), some (.iadd, 1, 0, 0), some (.istore_n 3, 1, 0, 0), some (.aload_n 0, 1, 0, 0), some (.getfield 30, 3, 208, 10), none, none, some (.iload_n 3, 1, 0, 0), some (.aload_n 0, 1, 0, 0), some (.getfield 30, 3, 208, 10), none, none, some (.iload_n 3, 1, 0, 0), some (.iaload, 1, 0, 0), some (.iconst 1, 1, 0, 0), some (.if_icmp .le 12, 3, 67, 0), none, none, some (.aload_n 0, 1, 0, 0), some (.getfield 30, 3, 208, 10), none, none, some (.iload_n 3, 1, 0, 0), some (.iaload, 1, 0, 0), some (.goto 17, 3, 81, 0), none, none, some (.iload_n 2, 1, 0, 0), some (.ifCond .eq 12, 3, 80, 0), none, none, some (.iconst 2, 1, 0, 0), some (.aload_n 0, 1, 0, 0), some (.getfield 106, 3, 14, 10), none, none, some (.iadd, 1, 0, 0), some (.goto 4, 3, 81, 0), none, none, some (.iconst 1, 1, 0, 0), some (.iastore, 1, 0, 0), some (.return_, 1, 0, 0)]
def tb_X10_cellHere : List (Option m_E) := [some (.aload_n 0, 1, 0, 0), some (.invokevirtual 99, 3, 112, 0), none, none, some (.istore_n 1, 1, 0, 0), some (.aload_n 0, 1, 0, 0), some (.dup, 1, 0, 0), some (.getfield 89, 3, 10, 10), none, none, some (.iconst 1, 1, 0, 0), some (.iadd, 1, 0, 0), some (.putfield 89, 3, 10, 10), none, none, some (.aload_n 0, 1, 0, 0), some (.aload_n 0, 1, 0, 0), some (.invokevirtual 99, 3, 112, 0), none, none, some (.bipush 48, 2, 0, 0), none, some (.bipush 51, 2, 0, 0), none, some (.invokestatic 83, 3, 105, 3), none, none, some (.ifCond .ne 7, 3, 34, 0), none, none, some (.iconst 1, 1, 0, 0), some (.goto 4, 3, 35, 0), none, none, some (.iconst 0, 1, 0, 0), some (.putfield 95, 3, 112, 10), none, none, some (.aload_n 0, 1, 0, 0), some (.getfield 95, 3, 112, 10), none, none, some (.ifCond .eq 7, 3, 49, 0), none, none, some (.iconst 0, 1, 0, 0), some (.goto 10, 3, 56, 0), none, none, some (.aload_n 0, 1, 0, 0), some (.invokevirtual 99, 3, 112, 0), none, none, some (.bipush 48, 2, 0, 0), none, some (.isub, 1, 0, 0), some (.istore_n 2, 1, 0, 0), some (.aload_n 0, 1, 0, 0), some (.dup, 1, 0, 0), some (.getfield 89, 3, 10, 10), none, none, some (.aload_n 0, 1, 0, 0), some (.getfield 95, 3, 112, 10), none, none, some (.ifCond .eq 7, 3, 73, 0), none, none, some (.iconst 0, 1, 0, 0), some (.goto 4, 3, 74, 0), none, none, some (.iconst 1, 1, 0, 0), some (.iadd, 1, 0, 0), some (.putfield 89, 3, 10, 10), none, none, some (.iload_n 1, 1, 0, 0), some (.bipush 116, 2, 0, 0), none, some (.if_icmp .ne 8, 3, 89, 0), none, none, some (.bipush 110, 2, 0, 0), none, some (.goto 17, 3, 103, 0), none, none, some (.iload_n 1, 1, 0, 0), some (.bipush 115, 2, 0, 0), none, some (.if_icmp .ne 8, 3, 100, 0), none, none, some (.bipush 120, 2, 0, 0), none, some (.goto 6, 3, 103, 0), none, none, some (.sipush 130, 3, 0, 0), none, none, some (.iload_n 2, 1, 0, 0), some (.iadd, 1, 0, 0), some (.ireturn, 1, 0, 0)]
def tb_X10_term : List (Option m_E) := [some (.aload_n 0, 1, 0, 0), some (.getfield 95, 3, 112, 10), none, none, some (.ifCond .eq 5, 3, 9, 0), none, none, some (.iconst 0, 1, 0, 0), some (.ireturn, 1, 0, 0), some (.aload_n 0, 1, 0, 0), some (.invokevirtual 99, 3, 112, 0), none, none, some (.istore_n 1, 1, 0, 0), some (.iload_n 1, 1, 0, 0), some (.bipush 116, 2, 0, 0), none, some (.if_icmp .eq 15, 3, 32, 0), none, none, some (.iload_n 1, 1, 0, 0), some (.bipush 115, 2, 0, 0), none, some (.if_icmp .eq 9, 3, 32, 0), none, none, some (.iload_n 1, 1, 0, 0), some (.bipush 103, 2, 0, 0), none, some (.if_icmp .ne 8, 3, 37, 0), none, none, some (.aload_n 0, 1, 0, 0), some (.invokevirtual 109, 3, 116, 0), none, none, some (.ireturn, 1, 0, 0), some (.iload_n 1, 1, 0, 0), some (.bipush 107, 2, 0, 0), none, some (.if_icmp .eq 15, 3, 55, 0), none, none, some (.iload_n 1, 1, 0, 0), some (.bipush 104, 2, 0, 0), none, some (.if_icmp .eq 9, 3, 55, 0), none, none, some (.iload_n 1, 1, 0, 0), some (.bipush 110, 2, 0, 0), none, some (.if_icmp .ne 38, 3, 90, 0), none, none, some (.aload_n 0, 1, 0, 0), some (.dup, 1, 0, 0), some (.getfield 89, 3, 10, 10), none, none, some (.iconst 1, 1, 0, 0), some (.iadd, 1, 0, 0), some (.putfield 89, 3, 10, 10), none, none, some (.iload_n 1, 1, 0, 0), some (.bipush 107, 2, 0, 0), none, some (.if_icmp .ne 8, 3, 76, 0), none, none, some (.bipush 100, 2, 0, 0), none, some (.goto 16, 3, 89, 0), none, none, some (.iload_n 1, 1, 0, 0), some (.bipush 104, 2, 0, 0), none, some (.if_icmp .ne 8, 3, 87, 0), none, none, some (.bipush 101, 2, 0, 0), none, some (.goto 5, 3, 89, 0), none, none, some (.bipush 102, 2, 0, 0), none, some (.ireturn, 1, 0, 0), some (.aload_n 0, 1, 0, 0), some (.iload_n 1, 1, 0, 0), some (.bipush 48, 2, 0, 0), none, some (.bipush 57, 2, 0, 0), none, some (.invokestatic 83, 3, 105, 3), none, none, some (.ifCond .ne 7, 3, 106, 0), none, none, some (.iconst 1, 1, 0, 0), some (.goto 4, 3, 107, 0), none, none, some (.iconst 0, 1, 0, 0), some (.putfield 95, 3, 112, 10), none, none, some (.iconst 0, 1, 0, 0), some (.istore_n 2, 1, 0, 0), some (.iconst 0, 1, 0, 0), some (.istore_n 3, 1, 0, 0), some (.iload_n 3, 1, 0, 0), some (.iconst 2, 1, 0, 0), some (.if_icmp .ge 61, 3, 177, 0), none, none, some (.aload_n 0, 1, 0, 0), some (.getfield 95, 3, 112, 10), none, none, some (.ifCond .ne 54, 3, 177, 0), none, none, some (.aload_n 0, 1, 0, 0), some (.invokevirtual 99, 3, 112, 0), none, none, some (.bipush 48, 2, 0, 0), none, some (.bipush 57, 2, 0, 0), none, some (.invokestatic 83, 3, 105, 3), none, none, some (.ifCond .eq 40, 3, 177, 0), none, none, some (.iload_n 3, 1, 0, 0), some (.ifCond .eq 7, 3, 148, 0), none, none, some (.iload_n 2, 1, 0, 0), some (.ifCond .le 32, 3, 177, 0), none, none, some (.bipush 10, 2, 0, 0), none, some (.iload_n 2, 1, 0, 0), some (.imul, 1, 0, 0), some (.aload_n 0, 1, 0, 0), some (.invokevirtual 99, 3, 112, 0), none, none, some (.iadd, 1, 0, 0), some (.bipush 48, 2, 0, 0), none, some (.isub, 1, 0, 0), some (.istore_n 2, 1, 0, 0), some (.aload_n 0, 1, 0, 0), some (.dup, 1, 0, 0), some (.getfield 89, 3, 10, 10), none, none, some (.iconst 1, 1, 0, 0), some (.iadd, 1, 0, 0), some (.putfield 89, 3, 10, 10), none, none, some (.iinc 3 1, 3, 0, 0), none, none, some (.goto (-60), 3, 114, 0), none, none, some (.iload_n 2, 1, 0, 0), some (.ireturn, 1, 0, 0)]
def tb_X10_factor : List (Option m_E) := [some (.aload_n 0, 1, 0, 0), some (.getfield 95, 3, 112, 10), none, none, some (.ifCond .eq 4, 3, 8, 0), none, none, some (.return_, 1, 0, 0), some (.aload_n 0, 1, 0, 0), some (.invokevirtual 99, 3, 112, 0), none, none, some (.istore_n 1, 1, 0, 0), some (.iload_n 1, 1, 0, 0), some (.bipush 33, 2, 0, 0), none, some (.if_icmp .eq 9, 3, 25, 0), none, none, some (.iload_n 1, 1, 0, 0), some (.bipush 40, 2, 0, 0), none, some (.if_icmp .ne 90, 3, 112, 0), none, none, some (.aload_n 0, 1, 0, 0), some (.aload_n 0, 1, 0, 0), some (.getfield 112, 3, 13, 10), none, none, some (.iconst 5, 1, 0, 0), some (.if_icmp .ne 7, 3, 38, 0), none, none, some (.iconst 1, 1, 0, 0), some (.goto 4, 3, 39, 0), none, none, some (.iconst 0, 1, 0, 0), some (.putfield 95, 3, 112, 10), none, none, some (.aload_n 0, 1, 0, 0), some (.dup, 1, 0, 0), some (.getfield 112, 3, 13, 10), none, none, some (.iconst 1, 1, 0, 0), some (.iadd, 1, 0, 0), some (.putfield 112, 3, 13, 10), none, none, some (.aload_n 0, 1, 0, 0), some (.dup, 1, 0, 0), some (.getfield 89, 3, 10, 10), none, none, some (.aload_n 0, 1, 0, 0), some (.getfield 95, 3, 112, 10), none, none, some (.ifCond .eq 7, 3, 68, 0), none, none, some (.iconst 0, 1, 0, 0), some (.goto 4, 3, 69, 0), none, none, some (.iconst 1, 1, 0, 0), some (.iadd, 1, 0, 0), some (.putfield 89, 3, 10, 10), none, none, some (.iload_n 1, 1, 0, 0), some (.bipush 33, 2, 0, 0), none, some (.if_icmp .ne 15, 3, 91, 0), none, none, some (.aload_n 0, 1, 0, 0), some (.invokevirtual 115, 3, 118, 0), none, none, some (.aload_n 0, 1, 0, 0), some (.iconst (-1), 1, 0, 0), some (.invokevirtual 118, 3, 114, 1), none, none, some (.goto 13, 3, 101, 0), none, none, some (.aload_n 0, 1, 0, 0), some (.invokevirtual 122, 3, 120, 0), none, none, some (.aload_n 0, 1, 0, 0), some (.bipush 41, 2, 0, 0), none, some (.invokevirtual 125, 3, 113, 1), none, none, some (.aload_n 0, 1, 0, 0), some (.dup, 1, 0, 0), some (.getfield 112, 3, 13, 10), none, none, some (.iconst 1, 1, 0, 0), some (.isub, 1, 0, 0), some (.putfield 112, 3, 13, 10), none, none, some (.return_, 1, 0, 0), some (.aload_n 0, 1, 0, 0), some (.invokevirtual 128, 3, 117, 0), none, none, some (.istore_n 2, 1, 0, 0), some (.aload_n 0, 1, 0, 0), some (.iload_n 2, 1, 0, 0), some (.iconst 1, 1, 0, 0), some (.invokevirtual 131, 3, 115, 2), none, none, some (.aload_n 0, 1, 0, 0), some (.invokevirtual 99, 3, 112, 0), none, none, some (.istore_n 3, 1, 0, 0), some (.aload_n 0, 1, 0, 0), some (.aload_n 0, 1, 0, 0), some (.getfield 95, 3, 112, 10), none, none, some (.ifCond .ne 21, 3, 154, 0), none, none, some (.iload_n 3, 1, 0, 0), some (.bipush 60, 2, 0, 0), none, some (.if_icmp .eq 19, 3, 158, 0), none, none, some (.iload_n 3, 1, 0, 0), some (.bipush 61, 2, 0, 0), none, some (.if_icmp .eq 13, 3, 158, 0), none, none, some (.iload_n 3, 1, 0, 0), some (.bipush 62, 2, 0, 0), none, some (.if_icmp .eq 7, 3, 158, 0), none, none, some (.iconst 1, 1, 0, 0), some (.goto 4, 3, 159, 0), none, none, some (.iconst 0, 1, 0, 0), some (.putfield 95, 3, 112, 10), none, none, some (.aload_n 0, 1, 0, 0), some (.dup, 1, 0, 0), some (.getfield 89, 3, 10, 10), none, none, some (.aload_n 0, 1, 0, 0), some (.getfield 95, 3, 112, 10), none, none, some (.ifCond .eq 7, 3, 178, 0), none, none, some (.iconst 0, 1, 0, 0), some (.goto 4, 3, 179, 0), none, none, some (.iconst 1, 1, 0, 0), some (.iadd, 1, 0, 0), some (.putfield 89, 3, 10, 10), none, none, some (.aload_n 0, 1, 0, 0), some (.invokevirtual 128, 3, 117, 0), none, none, some (.istore 4, 2, 0, 0), none, some (.aload_n 0, 1, 0, 0), some (.iload 4, 2, 0, 0), none, some (.iconst 1, 1, 0, 0), some (.invokevirtual 131, 3, 115, 2), none, none, some (.aload_n 0, 1, 0, 0), some (.ldc 135, 2, 100000, 0), none, some (.iconst 4, 1, 0, 0), some (.sipush 200, 3, 0, 0), none, none, some (.iload_n 2, 1, 0, 0), some (.imul, 1, 0, 0), some (.iload 4, 2, 0, 0), none, some (.iadd, 1, 0, 0), some (.imul, 1, 0, 0), some (.iadd, 1, 0, 0), some (.iload_n 3, 1, 0, 0), some (.bipush 60, 2, 0, 0), none, some (.if_icmp .ne 7, 3, 220, 0), none, none, some (.iconst 0, 1, 0, 0), some (.goto 14, 3, 231, 0), none, none, some (.iload_n 3, 1, 0, 0), some (.bipush 61, 2, 0, 0), none, some (.if_icmp .ne 7, 3, 230, 0), none, none, some (.iconst 1, 1, 0, 0), some (.goto 4, 3, 231, 0), none, none, some (.iconst 2, 1, 0, 0), some (.iadd, 1, 0, 0), some (.invokevirtual 118, 3, 114, 1), none, none, some (.return_, 1, 0, 0)]
def tb_X10_every : List (Option m_E) := [some (.aload_n 0, 1, 0, 0), some (.invokevirtual 115, 3, 118, 0), none, none, some (.aload_n 0, 1, 0, 0), some (.getfield 95, 3, 112, 10), none, none, some (.ifCond .ne 35, 3, 43, 0), none, none, some (.aload_n 0, 1, 0, 0), some (.invokevirtual 99, 3, 112, 0), none, none, some (.bipush 38, 2, 0, 0), none, some (.if_icmp .ne 26, 3, 43, 0), none, none, some (.aload_n 0, 1, 0, 0), some (.dup, 1, 0, 0), some (.getfield 89, 3, 10, 10), none, none, some (.iconst 1, 1, 0, 0), some (.iadd, 1, 0, 0), some (.putfield 89, 3, 10, 10), none, none, some (.aload_n 0, 1, 0, 0), some (.invokevirtual 115, 3, 118, 0), none, none, some (.aload_n 0, 1, 0, 0), some (.bipush (-2), 2, 0, 0), none, some (.invokevirtual 118, 3, 114, 1), none, none, some (.goto (-36), 3, 4, 0), none, none, some (.return_, 1, 0, 0)]
def tb_X10_some : List (Option m_E) := [some (.aload_n 0, 1, 0, 0), some (.invokevirtual 136, 3, 119, 0), none, none, some (.aload_n 0, 1, 0, 0), some (.getfield 95, 3, 112, 10), none, none, some (.ifCond .ne 35, 3, 43, 0), none, none, some (.aload_n 0, 1, 0, 0), some (.invokevirtual 99, 3, 112, 0), none, none, some (.bipush 124, 2, 0, 0), none, some (.if_icmp .ne 26, 3, 43, 0), none, none, some (.aload_n 0, 1, 0, 0), some (.dup, 1, 0, 0), some (.getfield 89, 3, 10, 10), none, none, some (.iconst 1, 1, 0, 0), some (.iadd, 1, 0, 0), some (.putfield 89, 3, 10, 10), none, none, some (.aload_n 0, 1, 0, 0), some (.invokevirtual 136, 3, 119, 0), none, none, some (.aload_n 0, 1, 0, 0), some (.bipush (-3), 2, 0, 0), none, some (.invokevirtual 118, 3, 114, 1), none, none, some (.goto (-36), 3, 4, 0), none, none, some (.return_, 1, 0, 0)]
def tb_X10_sum : List (Option m_E) := [some (.iconst 0, 1, 0, 0), some (.istore_n 2, 1, 0, 0), some (.iconst 1, 1, 0, 0), some (.istore_n 3, 1, 0, 0), some (.bipush 43, 2, 0, 0), none, some (.istore 4, 2, 0, 0), none, some (.iload_n 3, 1, 0, 0), some (.ifCond .eq 131, 3, 140, 0), none, none, some (.aload_n 0, 1, 0, 0), some (.invokevirtual 128, 3, 117, 0), none, none, some (.istore 5, 2, 0, 0), none, some (.iload_n 2, 1, 0, 0), some (.ifCond .ne 19, 3, 38, 0), none, none, some (.aload_n 0, 1, 0, 0), some (.iload_n 1, 1, 0, 0), some (.iload 5, 2, 0, 0), none, some (.iload_n 1, 1, 0, 0), some (.if_icmp .eq 7, 3, 34, 0), none, none, some (.iconst 1, 1, 0, 0), some (.goto 4, 3, 35, 0), none, none, some (.iconst 0, 1, 0, 0), some (.invokevirtual 131, 3, 115, 2), none, none, some (.iload_n 2, 1, 0, 0), some (.ifCond .gt 9, 3, 48, 0), none, none, some (.iload 5, 2, 0, 0), none, some (.iload_n 1, 1, 0, 0), some (.if_icmp .eq 10, 3, 55, 0), none, none, some (.aload_n 0, 1, 0, 0), some (.iload 5, 2, 0, 0), none, some (.iconst 1, 1, 0, 0), some (.invokevirtual 131, 3, 115, 2), none, none, some (.aload_n 0, 1, 0, 0), some (.iload 4, 2, 0, 0), none, some (.bipush 43, 2, 0, 0), none, some (.if_icmp .ne 9, 3, 69, 0), none, none, some (.sipush 3000, 3, 0, 0), none, none, some (.goto 6, 3, 72, 0), none, none, some (.sipush 4000, 3, 0, 0), none, none, some (.iload 5, 2, 0, 0), none, some (.iadd, 1, 0, 0), some (.invokevirtual 118, 3, 114, 1), none, none, some (.iinc 2 1, 3, 0, 0), none, none, some (.aload_n 0, 1, 0, 0), some (.invokevirtual 99, 3, 112, 0), none, none, some (.istore 4, 2, 0, 0), none, some (.aload_n 0, 1, 0, 0), some (.getfield 95, 3, 112, 10), none, none, some (.ifCond .ne 26, 3, 117, 0), none, none, some (.iload_n 2, 1, 0, 0), some (.iconst 4, 1, 0, 0), some (.if_icmp .ge 21, 3, 117, 0), none, none, some (.iload 4, 2, 0, 0), none, some (.bipush 43, 2, 0, 0), none, some (.if_icmp .eq 10, 3, 113, 0), none, none, some (.iload 4, 2, 0, 0), none, some (.bipush 45, 2, 0, 0), none, some (.if_icmp .ne 7, 3, 117, 0), none, none, some (.iconst 1, 1, 0, 0), some (.goto 4, 3, 118, 0), none, none, some (.iconst 0, 1, 0, 0), some (.istore_n 3, 1, 0, 0), some (.aload_n 0, 1, 0, 0), some (.dup, 1, 0, 0), some (.getfield 89, 3, 10, 10), none, none, some (.iload_n 3, 1, 0, 0), some (.ifCond .eq 7, 3, 132, 0), none, none, some (.iconst 1, 1, 0, 0), some (.goto 4, 3, 133, 0), none, none, some (.iconst 0, 1, 0, 0), some (.iadd, 1, 0, 0), some (.putfield 89, 3, 10, 10), none, none, some (.goto (-129), 3, 8, 0), none, none, some (.return_, 1, 0, 0)]
def tb_X10_actHere : List (Option m_E) := [some (.aload_n 0, 1, 0, 0), some (.invokevirtual 99, 3, 112, 0), none, none, some (.istore_n 1, 1, 0, 0), some (.iload_n 1, 1, 0, 0), some (.bipush 112, 2, 0, 0), none, some (.if_icmp .eq 15, 3, 23, 0), none, none, some (.iload_n 1, 1, 0, 0), some (.bipush 100, 2, 0, 0), none, some (.if_icmp .eq 9, 3, 23, 0), none, none, some (.iload_n 1, 1, 0, 0), some (.bipush 98, 2, 0, 0), none, some (.if_icmp .ne 43, 3, 63, 0), none, none, some (.aload_n 0, 1, 0, 0), some (.dup, 1, 0, 0), some (.getfield 89, 3, 10, 10), none, none, some (.iconst 1, 1, 0, 0), some (.iadd, 1, 0, 0), some (.putfield 89, 3, 10, 10), none, none, some (.aload_n 0, 1, 0, 0), some (.sipush 5000, 3, 0, 0), none, none, some (.iload_n 1, 1, 0, 0), some (.bipush 112, 2, 0, 0), none, some (.if_icmp .ne 7, 3, 47, 0), none, none, some (.iconst 1, 1, 0, 0), some (.goto 14, 3, 58, 0), none, none, some (.iload_n 1, 1, 0, 0), some (.bipush 100, 2, 0, 0), none, some (.if_icmp .ne 7, 3, 57, 0), none, none, some (.iconst 0, 1, 0, 0), some (.goto 4, 3, 58, 0), none, none, some (.iconst 2, 1, 0, 0), some (.iadd, 1, 0, 0), some (.invokevirtual 118, 3, 114, 1), none, none, some (.return_, 1, 0, 0), some (.iload_n 1, 1, 0, 0), some (.bipush 116, 2, 0, 0), none, some (.if_icmp .eq 21, 3, 87, 0), none, none, some (.iload_n 1, 1, 0, 0), some (.bipush 115, 2, 0, 0), none, some (.if_icmp .eq 15, 3, 87, 0), none, none, some (.iload_n 1, 1, 0, 0), some (.bipush 103, 2, 0, 0), none, some (.if_icmp .eq 9, 3, 87, 0), none, none, some (.aload_n 0, 1, 0, 0), some (.iconst 1, 1, 0, 0), some (.putfield 95, 3, 112, 10), none, none, some (.return_, 1, 0, 0), some (.aload_n 0, 1, 0, 0), some (.invokevirtual 109, 3, 116, 0), none, none, some (.istore_n 2, 1, 0, 0), some (.aload_n 0, 1, 0, 0), some (.bipush 61, 2, 0, 0), none, some (.invokevirtual 125, 3, 113, 1), none, none, some (.aload_n 0, 1, 0, 0), some (.sipush 2000, 3, 0, 0), none, none, some (.iload_n 2, 1, 0, 0), some (.iadd, 1, 0, 0), some (.invokevirtual 118, 3, 114, 1), none, none, some (.aload_n 0, 1, 0, 0), some (.iload_n 2, 1, 0, 0), some (.invokevirtual 139, 3, 121, 1), none, none, some (.return_, 1, 0, 0)]
def tb_X10_lineHere : List (Option m_E) := [some (.aload_n 0, 1, 0, 0), some (.invokevirtual 99, 3, 112, 0), none, none, some (.istore_n 1, 1, 0, 0), some (.aload_n 0, 1, 0, 0), some (.iload_n 1, 1, 0, 0), some (.bipush 42, 2, 0, 0), none, some (.if_icmp .eq 18, 3, 27, 0), none, none, some (.iload_n 1, 1, 0, 0), some (.bipush 48, 2, 0, 0), none, some (.bipush 51, 2, 0, 0), none, some (.invokestatic 83, 3, 105, 3), none, none, some (.ifCond .ne 7, 3, 27, 0), none, none, some (.iconst 1, 1, 0, 0), some (.goto 4, 3, 28, 0), none, none, some (.iconst 0, 1, 0, 0), some (.putfield 95, 3, 112, 10), none, none, some (.aload_n 0, 1, 0, 0), some (.dup, 1, 0, 0), some (.getfield 89, 3, 10, 10), none, none, some (.aload_n 0, 1, 0, 0), some (.getfield 95, 3, 112, 10), none, none, some (.ifCond .eq 7, 3, 47, 0), none, none, some (.iconst 0, 1, 0, 0), some (.goto 4, 3, 48, 0), none, none, some (.iconst 1, 1, 0, 0), some (.iadd, 1, 0, 0), some (.putfield 89, 3, 10, 10), none, none, some (.sipush 200, 3, 0, 0), none, none, some (.aload_n 0, 1, 0, 0), some (.getfield 103, 3, 9, 10), none, none, some (.imul, 1, 0, 0), some (.aload_n 0, 1, 0, 0), some (.getfield 21, 3, 205, 10), none, none, some (.aload_n 0, 1, 0, 0), some (.getfield 103, 3, 9, 10), none, none, some (.iaload, 1, 0, 0), some (.iadd, 1, 0, 0), some (.istore_n 2, 1, 0, 0), some (.aload_n 0, 1, 0, 0), some (.sipush 1000, 3, 0, 0), none, none, some (.iload_n 1, 1, 0, 0), some (.bipush 42, 2, 0, 0), none, some (.if_icmp .ne 7, 3, 85, 0), none, none, some (.iconst 4, 1, 0, 0), some (.goto 7, 3, 89, 0), none, none, some (.iload_n 1, 1, 0, 0), some (.bipush 48, 2, 0, 0), none, some (.isub, 1, 0, 0), some (.iadd, 1, 0, 0), some (.invokevirtual 118, 3, 114, 1), none, none, some (.aload_n 0, 1, 0, 0), some (.iconst 0, 1, 0, 0), some (.invokevirtual 118, 3, 114, 1), none, none, some (.aload_n 0, 1, 0, 0), some (.getfield 95, 3, 112, 10), none, none, some (.ifCond .ne 48, 3, 150, 0), none, none, some (.aload_n 0, 1, 0, 0), some (.invokevirtual 99, 3, 112, 0), none, none, some (.bipush 40, 2, 0, 0), none, some (.if_icmp .ne 39, 3, 150, 0), none, none, some (.aload_n 0, 1, 0, 0), some (.dup, 1, 0, 0), some (.getfield 89, 3, 10, 10), none, none, some (.iconst 1, 1, 0, 0), some (.iadd, 1, 0, 0), some (.putfield 89, 3, 10, 10), none, none, some (.aload_n 0, 1, 0, 0), some (.iconst 1, 1, 0, 0), some (.putfield 112, 3, 13, 10), none, none, some (.aload_n 0, 1, 0, 0), some (.invokevirtual 122, 3, 120, 0), none, none, some (.aload_n 0, 1, 0, 0), some (.bipush 41, 2, 0, 0), none, some (.invokevirtual 125, 3, 113, 1), none, none, some (.aload_n 0, 1, 0, 0), some (.iconst 0, 1, 0, 0), some (.putfield 112, 3, 13, 10), none, none, some (.aload_n 0, 1, 0, 0), some (.bipush (-4), 2, 0, 0), none, some (.invokevirtual 118, 3, 114, 1), none, none, some (.aload_n 0, 1, 0, 0), some (.bipush 58, 2, 0, 0), none, some (.invokevirtual 125, 3, 113, 1), none, none, some (.iconst 0, 1, 0, 0), some (.istore_n 3, 1, 0, 0), some (.aload_n 0, 1, 0, 0), some (.getfield 95, 3, 112, 10), none, none, some (.ifCond .ne 7, 3, 169, 0), none, none, some (.iconst 1, 1, 0, 0), some (.goto 4, 3, 170, 0), none, none, some (.iconst 0, 1, 0, 0), some (.istore 4, 2, 0, 0), none, some (.iload 4, 2, 0, 0), none, some (.ifCond .eq 60, 3, 234, 0), none, none, some (.aload_n 0, 1, 0, 0), some (.invokevirtual 142, 3, 122, 0), none, none, some (.iinc 3 1, 3, 0, 0), none, none, some (.aload_n 0, 1, 0, 0), some (.getfield 95, 3, 112, 10), none, none, some (.ifCond .ne 21, 3, 209, 0), none, none, some (.iload_n 3, 1, 0, 0), some (.iconst 5, 1, 0, 0), some (.if_icmp .ge 16, 3, 209, 0), none, none, some (.aload_n 0, 1, 0, 0), some (.invokevirtual 99, 3, 112, 0), none, none, some (.bipush 44, 2, 0, 0), none, some (.if_icmp .ne 7, 3, 209, 0), none, none, some (.iconst 1, 1, 0, 0), some (.goto 4, 3, 210, 0), none, none, some (.iconst 0, 1, 0, 0), some (.istore 4, 2, 0, 0), none, some (.aload_n 0, 1, 0, 0), some (.dup, 1, 0, 0), some (.getfield 89, 3, 10, 10), none, none, some (.iload 4, 2, 0, 0), none, some (.ifCond .eq 7, 3, 226, 0), none, none, some (.iconst 1, 1, 0, 0), some (.goto 4, 3, 227, 0), none, none, some (.iconst 0, 1, 0, 0), some (.iadd, 1, 0, 0), some (.putfield 89, 3, 10, 10), none, none, some (.goto (-59), 3, 172, 0), none, none, some (.aload_n 0, 1, 0, 0), some (.getfield 95, 3, 112, 10), none, none, some (.ifCond .ne 48, 3, 286, 0), none, none, some (.aload_n 0, 1, 0, 0), some (.getfield 18, 3, 204, 10), none, none, some (.iload_n 2, 1, 0, 0), some (.iconst 1, 1, 0, 0), some (.iadd, 1, 0, 0), some (.aload_n 0, 1, 0, 0), some (.getfield 21, 3, 205, 10), none, none, some (.aload_n 0, 1, 0, 0), some (.getfield 103, 3, 9, 10), none, none, some (.iaload, 1, 0, 0), some (.iastore, 1, 0, 0), some (.aload_n 0, 1, 0, 0), some (.getfield 27, 3, 207, 10), none, none, some (.bipush 8, 2, 0, 0), none, some (.aload_n 0, 1, 0, 0), some (.getfield 103, 3, 9, 10), none, none, some (.imul, 1, 0, 0), some (.aload_n 0, 1, 0, 0), some (.getfield 106, 3, 14, 10), none, none, some (.iadd, 1, 0, 0), some (.iload_n 3, 1, 0, 0), some (.iastore, 1, 0, 0), some (.aload_n 0, 1, 0, 0), some (.dup, 1, 0, 0), some (.getfield 106, 3, 14, 10), none, none, some (.iconst 1, 1, 0, 0), some (.iadd, 1, 0, 0), some (.putfield 106, 3, 14, 10), none, none, some (.return_, 1, 0, 0)]
def tb_X10_text : List (Option m_E) := [some (.aload_n 0, 1, 0, 0), some (.getfield 9, 3, 201, 10), none, none, some (.iconst 0, 1, 0, 0), some (.iaload, 1, 0, 0), some (.bipush 8, 2, 0, 0), none, some (.if_icmp .ne 6, 3, 14, 0), none, none, some (.bipush (-4), 2, 0, 0), none, some (.ireturn, 1, 0, 0), some (.aload_n 0, 1, 0, 0), some (.aload_n 0, 1, 0, 0), some (.getfield 9, 3, 201, 10), none, none, some (.iconst 0, 1, 0, 0), some (.iaload, 1, 0, 0), some (.putfield 103, 3, 9, 10), none, none, some (.aload_n 0, 1, 0, 0), some (.aload_n 0, 1, 0, 0), some (.getfield 9, 3, 201, 10), none, none, some (.bipush 6, 2, 0, 0), none, some (.iaload, 1, 0, 0), some (.putfield 92, 3, 11, 10), none, none, some (.aload_n 0, 1, 0, 0), some (.getfield 9, 3, 201, 10), none, none, some (.bipush 6, 2, 0, 0), none, some (.iconst 0, 1, 0, 0), some (.iastore, 1, 0, 0), some (.aload_n 0, 1, 0, 0), some (.getfield 21, 3, 205, 10), none, none, some (.aload_n 0, 1, 0, 0), some (.getfield 103, 3, 9, 10), none, none, some (.iconst 0, 1, 0, 0), some (.iastore, 1, 0, 0), some (.aload_n 0, 1, 0, 0), some (.iconst 0, 1, 0, 0), some (.putfield 89, 3, 10, 10), none, none, some (.aload_n 0, 1, 0, 0), some (.iconst 0, 1, 0, 0), some (.putfield 95, 3, 112, 10), none, none, some (.aload_n 0, 1, 0, 0), some (.iconst 0, 1, 0, 0), some (.putfield 112, 3, 13, 10), none, none, some (.aload_n 0, 1, 0, 0), some (.iconst 0, 1, 0, 0), some (.putfield 106, 3, 14, 10), none, none, some (.iconst 0, 1, 0, 0), some (.istore_n 1, 1, 0, 0), some (.iload_n 1, 1, 0, 0), some (.bipush 8, 2, 0, 0), none, some (.if_icmp .ge 24, 3, 102, 0), none, none, some (.aload_n 0, 1, 0, 0), some (.getfield 30, 3, 208, 10), none, none, some (.bipush 8, 2, 0, 0), none, some (.aload_n 0, 1, 0, 0), some (.getfield 103, 3, 9, 10), none, none, some (.imul, 1, 0, 0), some (.iload_n 1, 1, 0, 0), some (.iadd, 1, 0, 0), some (.iconst 0, 1, 0, 0), some (.iastore, 1, 0, 0), some (.iinc 1 1, 3, 0, 0), none, none, some (.goto (-24), 3, 75, 0), none, none, some (.aload_n 0, 1, 0, 0), some (.invokevirtual 145, 3, 123, 0), none, none, some (.aload_n 0, 1, 0, 0), some (.getfield 95, 3, 112, 10), none, none, some (.ifCond .ne 38, 3, 148, 0), none, none, some (.aload_n 0, 1, 0, 0), some (.getfield 106, 3, 14, 10), none, none, some (.bipush 8, 2, 0, 0), none, some (.if_icmp .ge 29, 3, 148, 0), none, none, some (.aload_n 0, 1, 0, 0), some (.invokevirtual 99, 3, 112, 0), none, none, some (.bipush 59, 2, 0, 0), none, some (.if_icmp .ne 20, 3, 148, 0), none, none, some (.aload_n 0, 1, 0, 0), some (.dup, 1, 0, 0), some (.getfield 89, 3, 10, 10), none, none, some (.iconst 1, 1, 0, 0), some (.iadd, 1, 0, 0), some (.putfield 89, 3, 10, 10), none, none, some (.aload_n 0, 1, 0, 0), some (.invokevirtual 145, 3, 123, 0), none, none, some (.goto (-39), 3, 106, 0), none, none, some (.aload_n 0, 1, 0, 0), some (.getfield 95, 3, 112, 10), none, none, some (.ifCond .ne 14, 3, 166, 0), none, none, some (.aload_n 0, 1, 0, 0), some (.getfield 89, 3, 10, 10), none, none, some (.aload_n 0, 1, 0, 0), some (.getfield 92, 3, 11, 10), none, none, some (.if_icmp .eq 11, 3, 174, 0), none, none, some (.bipush (-10), 2, 0, 0), none, some (.aload_n 0, 1, 0, 0), some (.getfield 89, 3, 10, 10), none, none, some (.isub, 1, 0, 0), some (.ireturn, 1, 0, 0), some (.aload_n 0, 1, 0, 0), some (.getfield 24, 3, 206, 10), none, none, some (.aload_n 0, 1, 0, 0), some (.getfield 103, 3, 9, 10), none, none, some (.aload_n 0, 1, 0, 0), some (.getfield 106, 3, 14, 10), none, none, some (.iastore, 1, 0, 0), some (.aload_n 0, 1, 0, 0), some (.getfield 9, 3, 201, 10), none, none, some (.iconst 0, 1, 0, 0), some (.dup2, 1, 0, 0), some (.iaload, 1, 0, 0), some (.iconst 1, 1, 0, 0), some (.iadd, 1, 0, 0), some (.iastore, 1, 0, 0), some (.aload_n 0, 1, 0, 0), some (.getfield 103, 3, 9, 10), none, none, some (.ireturn, 1, 0, 0)]
def tb_X10_lines : List (Option m_E) := [some (.aload_n 0, 1, 0, 0), some (.iload_n 1, 1, 0, 0), some (.invokevirtual 148, 3, 106, 1), none, none, some (.ifCond .eq 19, 3, 24, 0), none, none, some (.iload_n 2, 1, 0, 0), some (.iconst (-1), 1, 0, 0), some (.aload_n 0, 1, 0, 0), some (.getfield 24, 3, 206, 10), none, none, some (.iload_n 1, 1, 0, 0), some (.iaload, 1, 0, 0), some (.iconst 1, 1, 0, 0), some (.isub, 1, 0, 0), some (.invokestatic 83, 3, 105, 3), none, none, some (.ifCond .ne 5, 3, 26, 0), none, none, some (.iconst (-1), 1, 0, 0), some (.ireturn, 1, 0, 0), some (.iload_n 2, 1, 0, 0), some (.iconst (-1), 1, 0, 0), some (.if_icmp .ne 12, 3, 40, 0), none, none, some (.aload_n 0, 1, 0, 0), some (.getfield 24, 3, 206, 10), none, none, some (.iload_n 1, 1, 0, 0), some (.iaload, 1, 0, 0), some (.goto 14, 3, 51, 0), none, none, some (.aload_n 0, 1, 0, 0), some (.getfield 27, 3, 207, 10), none, none, some (.bipush 8, 2, 0, 0), none, some (.iload_n 1, 1, 0, 0), some (.imul, 1, 0, 0), some (.iload_n 2, 1, 0, 0), some (.iadd, 1, 0, 0), some (.iaload, 1, 0, 0), some (.ireturn, 1, 0, 0)]
def tb_X10_part : List (Option m_E) := [some (.aload_n 0, 1, 0, 0), some (.iload_n 1, 1, 0, 0), some (.invokevirtual 148, 3, 106, 1), none, none, some (.ifCond .eq 29, 3, 34, 0), none, none, some (.iload_n 2, 1, 0, 0), some (.iconst 0, 1, 0, 0), some (.iconst 1, 1, 0, 0), some (.invokestatic 83, 3, 105, 3), none, none, some (.ifCond .eq 20, 3, 34, 0), none, none, some (.iload_n 3, 1, 0, 0), some (.invokestatic 152, 3, 109, 1), none, none, some (.ifCond .eq 13, 3, 34, 0), none, none, some (.iload 4, 2, 0, 0), none, some (.iconst 0, 1, 0, 0), some (.iconst 1, 1, 0, 0), some (.invokestatic 83, 3, 105, 3), none, none, some (.ifCond .ne 5, 3, 36, 0), none, none, some (.iconst (-1), 1, 0, 0), some (.ireturn, 1, 0, 0), some (.aload_n 0, 1, 0, 0), some (.getfield 30, 3, 208, 10), none, none, some (.bipush 8, 2, 0, 0), none, some (.iload_n 1, 1, 0, 0), some (.imul, 1, 0, 0), some (.iconst 4, 1, 0, 0), some (.iload_n 2, 1, 0, 0), some (.imul, 1, 0, 0), some (.iadd, 1, 0, 0), some (.iload_n 3, 1, 0, 0), some (.iadd, 1, 0, 0), some (.iaload, 1, 0, 0), some (.istore 5, 2, 0, 0), none, some (.iload 4, 2, 0, 0), none, some (.ifCond .ne 18, 3, 73, 0), none, none, some (.iload 5, 2, 0, 0), none, some (.iconst 2, 1, 0, 0), some (.if_icmp .le 7, 3, 68, 0), none, none, some (.iconst 2, 1, 0, 0), some (.goto 23, 3, 88, 0), none, none, some (.iload 5, 2, 0, 0), none, some (.goto 18, 3, 88, 0), none, none, some (.iload 5, 2, 0, 0), none, some (.iconst 1, 1, 0, 0), some (.if_icmp .le 10, 3, 86, 0), none, none, some (.iload 5, 2, 0, 0), none, some (.iconst 2, 1, 0, 0), some (.isub, 1, 0, 0), some (.goto 5, 3, 88, 0), none, none, some (.bipush (-5), 2, 0, 0), none, some (.ireturn, 1, 0, 0)]
def tb_X10_place : List (Option m_E) := [some (.aload_n 0, 1, 0, 0), some (.getfield 155, 3, 22, 10), none, none, some (.iload_n 1, 1, 0, 0), some (.bipush 120, 2, 0, 0), none, some (.if_icmp .ge 17, 3, 24, 0), none, none, some (.iconst 4, 1, 0, 0), some (.aload_n 0, 1, 0, 0), some (.getfield 158, 3, 17, 10), none, none, some (.imul, 1, 0, 0), some (.iload_n 1, 1, 0, 0), some (.iadd, 1, 0, 0), some (.bipush 110, 2, 0, 0), none, some (.isub, 1, 0, 0), some (.goto 35, 3, 56, 0), none, none, some (.iload_n 1, 1, 0, 0), some (.sipush 130, 3, 0, 0), none, none, some (.if_icmp .ge 20, 3, 48, 0), none, none, some (.bipush 64, 2, 0, 0), none, some (.iconst 4, 1, 0, 0), some (.aload_n 0, 1, 0, 0), some (.getfield 161, 3, 18, 10), none, none, some (.imul, 1, 0, 0), some (.iadd, 1, 0, 0), some (.iload_n 1, 1, 0, 0), some (.iadd, 1, 0, 0), some (.bipush 120, 2, 0, 0), none, some (.isub, 1, 0, 0), some (.goto 11, 3, 56, 0), none, none, some (.bipush 80, 2, 0, 0), none, some (.iload_n 1, 1, 0, 0), some (.iadd, 1, 0, 0), some (.sipush 130, 3, 0, 0), none, none, some (.isub, 1, 0, 0), some (.iadd, 1, 0, 0), some (.ireturn, 1, 0, 0)]
def tb_X10_value : List (Option m_E) := [some (.iload_n 1, 1, 0, 0), some (.bipush 100, 2, 0, 0), none, some (.if_icmp .ge 5, 3, 8, 0), none, none, some (.iload_n 1, 1, 0, 0), some (.ireturn, 1, 0, 0), some (.iload_n 1, 1, 0, 0), some (.bipush 110, 2, 0, 0), none, some (.if_icmp .ge 34, 3, 45, 0), none, none, some (.iload_n 1, 1, 0, 0), some (.bipush 100, 2, 0, 0), none, some (.if_icmp .ne 10, 3, 27, 0), none, none, some (.aload_n 0, 1, 0, 0), some (.getfield 164, 3, 19, 10), none, none, some (.goto 20, 3, 44, 0), none, none, some (.iload_n 1, 1, 0, 0), some (.bipush 101, 2, 0, 0), none, some (.if_icmp .ne 10, 3, 40, 0), none, none, some (.aload_n 0, 1, 0, 0), some (.getfield 161, 3, 18, 10), none, none, some (.goto 7, 3, 44, 0), none, none, some (.aload_n 0, 1, 0, 0), some (.getfield 167, 3, 20, 10), none, none, some (.ireturn, 1, 0, 0), some (.aload_n 0, 1, 0, 0), some (.getfield 170, 3, 121, 10), none, none, some (.ifCond .eq 16, 3, 65, 0), none, none, some (.aload_n 0, 1, 0, 0), some (.getfield 33, 3, 215, 10), none, none, some (.aload_n 0, 1, 0, 0), some (.iload_n 1, 1, 0, 0), some (.invokevirtual 173, 3, 127, 1), none, none, some (.iaload, 1, 0, 0), some (.goto 13, 3, 75, 0), none, none, some (.aload_n 0, 1, 0, 0), some (.getfield 9, 3, 201, 10), none, none, some (.aload_n 0, 1, 0, 0), some (.iload_n 1, 1, 0, 0), some (.invokevirtual 173, 3, 127, 1), none, none, some (.iaload, 1, 0, 0), some (.ireturn, 1, 0, 0)]
def tb_X10_becomes : List (Option m_E) := [some (.aload_n 0, 1, 0, 0), some (.getfield 170, 3, 121, 10), none, none, some (.ifCond .eq 17, 3, 21, 0), none, none, some (.aload_n 0, 1, 0, 0), some (.getfield 33, 3, 215, 10), none, none, some (.aload_n 0, 1, 0, 0), some (.iload_n 1, 1, 0, 0), some (.invokevirtual 173, 3, 127, 1), none, none, some (.iload_n 2, 1, 0, 0), some (.iastore, 1, 0, 0), some (.goto 14, 3, 32, 0), none, none, some (.aload_n 0, 1, 0, 0), some (.getfield 9, 3, 201, 10), none, none, some (.aload_n 0, 1, 0, 0), some (.iload_n 1, 1, 0, 0), some (.invokevirtual 173, 3, 127, 1), none, none, some (.iload_n 2, 1, 0, 0), some (.iastore, 1, 0, 0), some (.return_, 1, 0, 0)]
def tb_X10_isSo : List (Option m_E) := [some (.iload_n 1, 1, 0, 0), some (.ldc 135, 2, 100000, 0), none, some (.isub, 1, 0, 0), some (.iconst 4, 1, 0, 0), some (.idiv, 1, 0, 0), some (.istore_n 2, 1, 0, 0), some (.aload_n 0, 1, 0, 0), some (.iload_n 2, 1, 0, 0), some (.sipush 200, 3, 0, 0), none, none, some (.idiv, 1, 0, 0), some (.invokevirtual 177, 3, 128, 1), none, none, some (.istore_n 3, 1, 0, 0), some (.aload_n 0, 1, 0, 0), some (.iload_n 2, 1, 0, 0), some (.sipush 200, 3, 0, 0), none, none, some (.irem, 1, 0, 0), some (.invokevirtual 177, 3, 128, 1), none, none, some (.istore 4, 2, 0, 0), none, some (.iload_n 1, 1, 0, 0), some (.ldc 135, 2, 100000, 0), none, some (.isub, 1, 0, 0), some (.iconst 4, 1, 0, 0), some (.irem, 1, 0, 0), some (.istore 5, 2, 0, 0), none, some (.iload 5, 2, 0, 0), none, some (.ifCond .ne 17, 3, 55, 0), none, none, some (.iload_n 3, 1, 0, 0), some (.iload 4, 2, 0, 0), none, some (.if_icmp .ge 7, 3, 51, 0), none, none, some (.iconst 1, 1, 0, 0), some (.goto 38, 3, 86, 0), none, none, some (.iconst 0, 1, 0, 0), some (.goto 34, 3, 86, 0), none, none, some (.iload 5, 2, 0, 0), none, some (.iconst 1, 1, 0, 0), some (.if_icmp .ne 17, 3, 75, 0), none, none, some (.iload_n 3, 1, 0, 0), some (.iload 4, 2, 0, 0), none, some (.if_icmp .ne 7, 3, 71, 0), none, none, some (.iconst 1, 1, 0, 0), some (.goto 18, 3, 86, 0), none, none, some (.iconst 0, 1, 0, 0), some (.goto 14, 3, 86, 0), none, none, some (.iload_n 3, 1, 0, 0), some (.iload 4, 2, 0, 0), none, some (.if_icmp .le 7, 3, 85, 0), none, none, some (.iconst 1, 1, 0, 0), some (.goto 4, 3, 86, 0), none, none, some (.iconst 0, 1, 0, 0), some (.ireturn, 1, 0, 1)]
def tb_X10_acts : List (Option m_E) := [some (.iconst (-1), 1, 0, 0), some (.istore_n 3, 1, 0, 0), some (.iconst 0, 1, 0, 0), some (.istore 4, 2, 0, 0), none, some (.iload_n 1, 1, 0, 0), some (.istore 5, 2, 0, 0), none, some (.iload 5, 2, 0, 0), none, some (.iload_n 2, 1, 0, 0), some (.if_icmp .ge 120, 3, 131, 0), none, none, some (.aload_n 0, 1, 0, 0), some (.getfield 18, 3, 204, 10), none, none, some (.iload 5, 2, 0, 0), none, some (.iaload, 1, 0, 0), some (.istore 6, 2, 0, 0), none, some (.iload 6, 2, 0, 0), none, some (.sipush 5000, 3, 0, 0), none, none, some (.if_icmp .ge 11, 3, 39, 0), none, none, some (.iload 6, 2, 0, 0), none, some (.sipush 3000, 3, 0, 0), none, none, some (.if_icmp .ge 52, 3, 88, 0), none, none, some (.iload_n 3, 1, 0, 0), some (.iconst (-1), 1, 0, 0), some (.if_icmp .eq 10, 3, 51, 0), none, none, some (.aload_n 0, 1, 0, 0), some (.iload_n 3, 1, 0, 0), some (.iload 4, 2, 0, 0), none, some (.invokevirtual 180, 3, 129, 2), none, none, some (.iload 6, 2, 0, 0), none, some (.sipush 3000, 3, 0, 0), none, none, some (.if_icmp .ge 12, 3, 68, 0), none, none, some (.iload 6, 2, 0, 0), none, some (.sipush 2000, 3, 0, 0), none, none, some (.isub, 1, 0, 0), some (.goto 4, 3, 69, 0), none, none, some (.iconst (-1), 1, 0, 0), some (.istore_n 3, 1, 0, 0), some (.iconst 0, 1, 0, 0), some (.istore 4, 2, 0, 0), none, some (.iload 6, 2, 0, 0), none, some (.sipush 5000, 3, 0, 0), none, none, some (.if_icmp .lt 47, 3, 125, 0), none, none, some (.iload 6, 2, 0, 0), none, some (.sipush 5000, 3, 0, 0), none, none, some (.isub, 1, 0, 0), some (.ireturn, 1, 0, 0), some (.iload 4, 2, 0, 0), none, some (.iload 6, 2, 0, 0), none, some (.sipush 4000, 3, 0, 0), none, none, some (.if_icmp .lt 17, 3, 112, 0), none, none, some (.aload_n 0, 1, 0, 0), some (.iload 6, 2, 0, 0), none, some (.sipush 4000, 3, 0, 0), none, none, some (.isub, 1, 0, 0), some (.invokevirtual 177, 3, 128, 1), none, none, some (.ineg, 1, 0, 0), some (.goto 13, 3, 122, 0), none, none, some (.aload_n 0, 1, 0, 0), some (.iload 6, 2, 0, 0), none, some (.sipush 3000, 3, 0, 0), none, none, some (.isub, 1, 0, 0), some (.invokevirtual 177, 3, 128, 1), none, none, some (.iadd, 1, 0, 0), some (.istore 4, 2, 0, 0), none, some (.iinc 5 1, 3, 0, 0), none, none, some (.goto (-120), 3, 8, 0), none, none, some (.iload_n 3, 1, 0, 0), some (.iconst (-1), 1, 0, 0), some (.if_icmp .eq 10, 3, 143, 0), none, none, some (.aload_n 0, 1, 0, 0), some (.iload_n 3, 1, 0, 0), some (.iload 4, 2, 0, 0), none, some (.invokevirtual 180, 3, 129, 2), none, none, some (.iconst 1, 1, 0, 0), some (.ireturn, 1, 0, 0)]
def tb_X10_works : List (Option m_E) := [some (.sipush 200, 3, 0, 0), none, none, some (.iload_n 1, 1, 0, 0), some (.imul, 1, 0, 0), some (.istore_n 2, 1, 0, 0), some (.iload_n 2, 1, 0, 0), some (.aload_n 0, 1, 0, 0), some (.getfield 21, 3, 205, 10), none, none, some (.iload_n 1, 1, 0, 0), some (.iaload, 1, 0, 0), some (.iadd, 1, 0, 0), some (.istore_n 3, 1, 0, 0), some (.aload_n 0, 1, 0, 0), some (.bipush (-5), 2, 0, 0), none, some (.putfield 184, 3, 23, 10), none, none, some (.iconst 0, 1, 0, 0), some (.istore 4, 2, 0, 0), none, some (.iload_n 2, 1, 0, 0), some (.iload_n 3, 1, 0, 0), some (.if_icmp .ge 335, 3, 361, 0), none, none, some (.sipush 200, 3, 0, 0), none, none, some (.iload_n 1, 1, 0, 0), some (.imul, 1, 0, 0), some (.aload_n 0, 1, 0, 0), some (.getfield 18, 3, 204, 10), none, none, some (.iload_n 2, 1, 0, 0), some (.iconst 1, 1, 0, 0), some (.iadd, 1, 0, 0), some (.iaload, 1, 0, 0), some (.iadd, 1, 0, 0), some (.istore 5, 2, 0, 0), none, some (.iload_n 2, 1, 0, 0), some (.iconst 2, 1, 0, 0), some (.iadd, 1, 0, 0), some (.istore 6, 2, 0, 0), none, some (.aload_n 0, 1, 0, 0), some (.getfield 18, 3, 204, 10), none, none, some (.iload_n 2, 1, 0, 0), some (.iaload, 1, 0, 0), some (.sipush 1004, 3, 0, 0), none, none, some (.if_icmp .eq 20, 3, 79, 0), none, none, some (.aload_n 0, 1, 0, 0), some (.getfield 18, 3, 204, 10), none, none, some (.iload_n 2, 1, 0, 0), some (.iaload, 1, 0, 0), some (.sipush 1000, 3, 0, 0), none, none, some (.aload_n 0, 1, 0, 0), some (.getfield 164, 3, 19, 10), none, none, some (.iadd, 1, 0, 0), some (.if_icmp .ne 7, 3, 83, 0), none, none, some (.iconst 1, 1, 0, 0), some (.goto 4, 3, 84, 0), none, none, some (.iconst 0, 1, 0, 0), some (.istore 7, 2, 0, 0), none, some (.iconst 0, 1, 0, 0), some (.istore 8, 2, 0, 0), none, some (.iconst 0, 1, 0, 0), some (.istore 9, 2, 0, 0), none, some (.iload 6, 2, 0, 0), none, some (.iload 5, 2, 0, 0), none, some (.if_icmp .ge 187, 3, 283, 0), none, none, some (.aload_n 0, 1, 0, 0), some (.getfield 18, 3, 204, 10), none, none, some (.iload 6, 2, 0, 0), none, some (.iaload, 1, 0, 0), some (.ifCond .lt 15, 3, 121, 0), none, none, some (.aload_n 0, 1, 0, 0), some (.getfield 18, 3, 204, 10), none, none, some (.iload 6, 2, 0, 0), none, some (.iaload, 1, 0, 0), some (.ldc 135, 2, 100000, 0), none, some (.if_icmp .lt 165, 3, 283, 0), none, none, some (.aload_n 0, 1, 0, 0), some (.getfield 18, 3, 204, 10), none, none, some (.iload 6, 2, 0, 0), none, some (.iaload, 1, 0, 0), some (.istore 10, 2, 0, 0), none, some (.iconst 1, 1, 0, 0), some (.istore 9, 2, 0, 0), none, some (.iload 10, 2, 0, 0), none, some (.ldc 135, 2, 100000, 0), none, some (.if_icmp .lt 22, 3, 159, 0), none, none, some (.aload_n 0, 1, 0, 0), some (.getfield 36, 3, 216, 10), none, none, some (.iload 8, 2, 0, 0), none, some (.aload_n 0, 1, 0, 0), some (.iload 10, 2, 0, 0), none, some (.invokevirtual 187, 3, 130, 1), none, none, some (.bastore, 1, 0, 0), some (.iinc 8 1, 3, 0, 0), none, none, some (.goto 121, 3, 277, 0), none, none, some (.iload 10, 2, 0, 0), none, some (.iconst (-1), 1, 0, 0), some (.if_icmp .ne 32, 3, 194, 0), none, none, some (.aload_n 0, 1, 0, 0), some (.getfield 36, 3, 216, 10), none, none, some (.iload 8, 2, 0, 0), none, some (.iconst 1, 1, 0, 0), some (.isub, 1, 0, 0), some (.aload_n 0, 1, 0, 0), some (.getfield 36, 3, 216, 10), none, none, some (.iload 8, 2, 0, 0), none, some (.iconst 1, 1, 0, 0), some (.isub, 1, 0, 0), some (.baload, 1, 0, 0), some (.ifCond .ne 7, 3, 189, 0), none, none, some (.iconst 1, 1, 0, 0), some (.goto 4, 3, 190, 0), none, none, some (.iconst 0, 1, 0, 0), some (.bastore, 1, 0, 0), some (.goto 86, 3, 277, 0), none, none, some (.iload 10, 2, 0, 0), none, some (.bipush (-4), 2, 0, 0), none, some (.if_icmp .eq 79, 3, 277, 0), none, none, some (.iinc 8 (-1), 3, 0, 0), none, none, some (.aload_n 0, 1, 0, 0), some (.getfield 36, 3, 216, 10), none, none, some (.iload 8, 2, 0, 0), none, some (.iconst 1, 1, 0, 0), some (.isub, 1, 0, 0), some (.iload 10, 2, 0, 0), none, some (.bipush (-2), 2, 0, 0), none, some (.if_icmp .ne 33, 3, 249, 0), none, none, some (.aload_n 0, 1, 0, 0), some (.getfield 36, 3, 216, 10), none, none, some (.iload 8, 2, 0, 0), none, some (.iconst 1, 1, 0, 0), some (.isub, 1, 0, 0), some (.baload, 1, 0, 0), some (.ifCond .eq 17, 3, 245, 0), none, none, some (.aload_n 0, 1, 0, 0), some (.getfield 36, 3, 216, 10), none, none, some (.iload 8, 2, 0, 0), none, some (.baload, 1, 0, 0), some (.ifCond .eq 7, 3, 245, 0), none, none, some (.iconst 1, 1, 0, 0), some (.goto 34, 3, 276, 0), none, none, some (.iconst 0, 1, 0, 0), some (.goto 30, 3, 276, 0), none, none, some (.aload_n 0, 1, 0, 0), some (.getfield 36, 3, 216, 10), none, none, some (.iload 8, 2, 0, 0), none, some (.iconst 1, 1, 0, 0), some (.isub, 1, 0, 0), some (.baload, 1, 0, 0), some (.ifCond .ne 13, 3, 271, 0), none, none, some (.aload_n 0, 1, 0, 0), some (.getfield 36, 3, 216, 10), none, none, some (.iload 8, 2, 0, 0), none, some (.baload, 1, 0, 0), some (.ifCond .eq 7, 3, 275, 0), none, none, some (.iconst 1, 1, 0, 0), some (.goto 4, 3, 276, 0), none, none, some (.iconst 0, 1, 0, 0), some (.bastore, 1, 0, 0), some (.iinc 6 1, 3, 0, 0), none, none, some (.goto (-188), 3, 92, 0), none, none, some (.iload 7, 2, 0, 0), none, some (.ifCond .eq 67, 3, 352, 0), none, none, some (.iload 9, 2, 0, 0), none, some (.ifCond .eq 12, 3, 302, 0), none, none, some (.aload_n 0, 1, 0, 0), some (.getfield 36, 3, 216, 10), none, none, some (.iconst 0, 1, 0, 0), some (.baload, 1, 0, 0), some (.ifCond .eq 53, 3, 352, 0), none, none, some (.aload_n 0, 1, 0, 0), some (.iload 4, 2, 0, 0), none, some (.putfield 184, 3, 23, 10), none, none, some (.aload_n 0, 1, 0, 0), some (.iload 6, 2, 0, 0), none, some (.iload 5, 2, 0, 0), none, some (.invokevirtual 190, 3, 131, 2), none, none, some (.istore 10, 2, 0, 0), none, some (.iconst 0, 1, 0, 0), some (.istore 11, 2, 0, 0), none, some (.iload 11, 2, 0, 0), none, some (.iconst 4, 1, 0, 0), some (.if_icmp .ge 25, 3, 349, 0), none, none, some (.iload 10, 2, 0, 0), none, some (.iconst 2, 1, 0, 0), some (.if_icmp .ne 19, 3, 349, 0), none, none, some (.aload_n 0, 1, 0, 0), some (.bipush 110, 2, 0, 0), none, some (.iload 11, 2, 0, 0), none, some (.iadd, 1, 0, 0), some (.iconst 0, 1, 0, 0), some (.invokevirtual 180, 3, 129, 2), none, none, some (.iinc 11 1, 3, 0, 0), none, none, some (.goto (-25), 3, 321, 0), none, none, some (.iload 10, 2, 0, 0), none, some (.ireturn, 1, 0, 0), some (.iload 5, 2, 0, 0), none, some (.istore_n 2, 1, 0, 0), some (.iinc 4 1, 3, 0, 0), none, none, some (.goto (-334), 3, 24, 0), none, none, some (.iconst 1, 1, 0, 0), some (.ireturn, 1, 0, 0)]
def tb_X10_packet : List (Option m_E) := [some (.aload_n 0, 1, 0, 0), some (.iload_n 1, 1, 0, 0), some (.putfield 158, 3, 17, 10), none, none, some (.aload_n 0, 1, 0, 0), some (.iload_n 2, 1, 0, 0), some (.putfield 161, 3, 18, 10), none, none, some (.aload_n 0, 1, 0, 0), some (.iload_n 3, 1, 0, 0), some (.putfield 164, 3, 19, 10), none, none, some (.aload_n 0, 1, 0, 0), some (.iload 4, 2, 0, 0), none, some (.putfield 167, 3, 20, 10), none, none, some (.return_, 1, 0, 0)]
def tb_X10_worksBox : List (Option m_E) := [some (.aload_n 0, 1, 0, 0), some (.iconst 0, 1, 0, 0), some (.putfield 170, 3, 121, 10), none, none, some (.aload_n 0, 1, 0, 0), some (.sipush 200, 3, 0, 0), none, none, some (.bipush 84, 2, 0, 0), none, some (.iload_n 1, 1, 0, 0), some (.imul, 1, 0, 0), some (.iadd, 1, 0, 0), some (.putfield 155, 3, 22, 10), none, none, some (.aload_n 0, 1, 0, 0), some (.aload_n 0, 1, 0, 0), some (.getfield 9, 3, 201, 10), none, none, some (.sipush 178, 3, 0, 0), none, none, some (.iload_n 1, 1, 0, 0), some (.iadd, 1, 0, 0), some (.iaload, 1, 0, 0), some (.invokevirtual 194, 3, 132, 1), none, none, some (.istore_n 2, 1, 0, 0), some (.aload_n 0, 1, 0, 0), some (.getfield 9, 3, 201, 10), none, none, some (.sipush 186, 3, 0, 0), none, none, some (.iload_n 1, 1, 0, 0), some (.iadd, 1, 0, 0), some (.aload_n 0, 1, 0, 0), some (.getfield 184, 3, 23, 10), none, none, some (.iastore, 1, 0, 0), some (.iload_n 2, 1, 0, 0), some (.ireturn, 1, 0, 0)]
def tb_X10_isPacket : List (Option m_E) := [some (.iload_n 0, 1, 0, 0), some (.invokestatic 197, 3, 108, 1), none, none, some (.ifCond .eq 21, 3, 25, 0), none, none, some (.iload_n 1, 1, 0, 0), some (.invokestatic 152, 3, 109, 1), none, none, some (.ifCond .eq 14, 3, 25, 0), none, none, some (.iload_n 2, 1, 0, 0), some (.invokestatic 152, 3, 109, 1), none, none, some (.ifCond .eq 7, 3, 25, 0), none, none, some (.iconst 1, 1, 0, 0), some (.goto 4, 3, 26, 0), none, none, some (.iconst 0, 1, 0, 0), some (.ireturn, 1, 0, 1)]
def tb_X10_box : List (Option m_E) := [some (.iload_n 1, 1, 0, 0), some (.iconst 0, 1, 0, 0), some (.bipush 6, 2, 0, 0), none, some (.invokestatic 83, 3, 105, 3), none, none, some (.ifCond .eq 11, 3, 18, 0), none, none, some (.aload_n 0, 1, 0, 0), some (.iload_n 2, 1, 0, 0), some (.invokevirtual 148, 3, 106, 1), none, none, some (.ifCond .ne 5, 3, 20, 0), none, none, some (.iconst (-1), 1, 0, 0), some (.ireturn, 1, 0, 0), some (.aload_n 0, 1, 0, 0), some (.getfield 9, 3, 201, 10), none, none, some (.iconst 1, 1, 0, 0), some (.iaload, 1, 0, 0), some (.bipush 8, 2, 0, 0), none, some (.if_icmp .ne 6, 3, 34, 0), none, none, some (.bipush (-4), 2, 0, 0), none, some (.ireturn, 1, 0, 0), some (.aload_n 0, 1, 0, 0), some (.getfield 9, 3, 201, 10), none, none, some (.iconst 1, 1, 0, 0), some (.iaload, 1, 0, 0), some (.istore_n 3, 1, 0, 0), some (.aload_n 0, 1, 0, 0), some (.getfield 9, 3, 201, 10), none, none, some (.sipush 170, 3, 0, 0), none, none, some (.iload_n 3, 1, 0, 0), some (.iadd, 1, 0, 0), some (.iload_n 1, 1, 0, 0), some (.iastore, 1, 0, 0), some (.aload_n 0, 1, 0, 0), some (.getfield 9, 3, 201, 10), none, none, some (.sipush 178, 3, 0, 0), none, none, some (.iload_n 3, 1, 0, 0), some (.iadd, 1, 0, 0), some (.iload_n 2, 1, 0, 0), some (.iastore, 1, 0, 0), some (.aload_n 0, 1, 0, 0), some (.getfield 9, 3, 201, 10), none, none, some (.sipush 186, 3, 0, 0), none, none, some (.iload_n 3, 1, 0, 0), some (.iadd, 1, 0, 0), some (.bipush (-5), 2, 0, 0), none, some (.iastore, 1, 0, 0), some (.aload_n 0, 1, 0, 0), some (.getfield 9, 3, 201, 10), none, none, some (.sipush 872, 3, 0, 0), none, none, some (.iload_n 3, 1, 0, 0), some (.iadd, 1, 0, 0), some (.iconst 0, 1, 0, 0), some (.iastore, 1, 0, 0), some (.iconst 0, 1, 0, 0), some (.istore 4, 2, 0, 0), none, some (.iload 4, 2, 0, 0), none, some (.bipush 84, 2, 0, 0), none, some (.if_icmp .ge 43, 3, 136, 0), none, none, some (.aload_n 0, 1, 0, 0), some (.getfield 9, 3, 201, 10), none, none, some (.sipush 200, 3, 0, 0), none, none, some (.bipush 84, 2, 0, 0), none, some (.iload_n 3, 1, 0, 0), some (.imul, 1, 0, 0), some (.iadd, 1, 0, 0), some (.iload 4, 2, 0, 0), none, some (.iadd, 1, 0, 0), some (.iconst 0, 1, 0, 0), some (.iastore, 1, 0, 0), some (.aload_n 0, 1, 0, 0), some (.getfield 9, 3, 201, 10), none, none, some (.sipush 880, 3, 0, 0), none, none, some (.bipush 84, 2, 0, 0), none, some (.iload_n 3, 1, 0, 0), some (.imul, 1, 0, 0), some (.iadd, 1, 0, 0), some (.iload 4, 2, 0, 0), none, some (.iadd, 1, 0, 0), some (.iconst 0, 1, 0, 0), some (.iastore, 1, 0, 0), some (.iinc 4 1, 3, 0, 0), none, none, some (.goto (-44), 3, 89, 0), none, none, some (.iconst 0, 1, 0, 0), some (.istore 4, 2, 0, 0), none, some (.iload 4, 2, 0, 0), none, some (.bipush 16, 2, 0, 0), none, some (.if_icmp .ge 26, 3, 169, 0), none, none, some (.aload_n 0, 1, 0, 0), some (.getfield 9, 3, 201, 10), none, none, some (.sipush 1552, 3, 0, 0), none, none, some (.bipush 16, 2, 0, 0), none, some (.iload_n 3, 1, 0, 0), some (.imul, 1, 0, 0), some (.iadd, 1, 0, 0), some (.iload 4, 2, 0, 0), none, some (.iadd, 1, 0, 0), some (.iload_n 3, 1, 0, 0), some (.iastore, 1, 0, 0), some (.iinc 4 1, 3, 0, 0), none, none, some (.goto (-27), 3, 139, 0), none, none, some (.aload_n 0, 1, 0, 0), some (.getfield 9, 3, 201, 10), none, none, some (.iconst 1, 1, 0, 0), some (.dup2, 1, 0, 0), some (.iaload, 1, 0, 0), some (.iconst 1, 1, 0, 0), some (.iadd, 1, 0, 0), some (.iastore, 1, 0, 0), some (.iload_n 3, 1, 0, 0), some (.ireturn, 1, 0, 0)]
def tb_X10_work : List (Option m_E) := [some (.aload_n 0, 1, 0, 0), some (.iload_n 1, 1, 0, 0), some (.invokevirtual 200, 3, 107, 1), none, none, some (.ifCond .eq 13, 3, 18, 0), none, none, some (.iload_n 2, 1, 0, 0), some (.iload_n 3, 1, 0, 0), some (.iload 4, 2, 0, 0), none, some (.invokestatic 203, 3, 135, 3), none, none, some (.ifCond .ne 5, 3, 20, 0), none, none, some (.iconst (-1), 1, 0, 0), some (.ireturn, 1, 0, 0), some (.iload 5, 2, 0, 0), none, some (.iconst 0, 1, 0, 0), some (.bipush 99, 2, 0, 0), none, some (.invokestatic 83, 3, 105, 3), none, none, some (.ifCond .ne 6, 3, 34, 0), none, none, some (.bipush (-2), 2, 0, 0), none, some (.ireturn, 1, 0, 0), some (.aload_n 0, 1, 0, 0), some (.iload_n 2, 1, 0, 0), some (.iload_n 3, 1, 0, 0), some (.iload 4, 2, 0, 0), none, some (.iload 5, 2, 0, 0), none, some (.invokevirtual 206, 3, 133, 4), none, none, some (.aload_n 0, 1, 0, 0), some (.iload_n 1, 1, 0, 0), some (.invokevirtual 210, 3, 134, 1), none, none, some (.ireturn, 1, 0, 0)]
def tb_X10_cell : List (Option m_E) := [some (.aload_n 0, 1, 0, 0), some (.iload_n 1, 1, 0, 0), some (.invokevirtual 200, 3, 107, 1), none, none, some (.ifCond .eq 44, 3, 49, 0), none, none, some (.iload_n 2, 1, 0, 0), some (.iconst 0, 1, 0, 0), some (.iconst 2, 1, 0, 0), some (.invokestatic 83, 3, 105, 3), none, none, some (.ifCond .eq 35, 3, 49, 0), none, none, some (.iload_n 3, 1, 0, 0), some (.invokestatic 152, 3, 109, 1), none, none, some (.ifCond .eq 28, 3, 49, 0), none, none, some (.iload_n 2, 1, 0, 0), some (.ifCond .ne 11, 3, 36, 0), none, none, some (.iload 4, 2, 0, 0), none, some (.invokestatic 197, 3, 108, 1), none, none, some (.ifCond .eq 16, 3, 49, 0), none, none, some (.iload_n 2, 1, 0, 0), some (.iconst 1, 1, 0, 0), some (.if_icmp .ne 14, 3, 52, 0), none, none, some (.iload 4, 2, 0, 0), none, some (.invokestatic 152, 3, 109, 1), none, none, some (.ifCond .ne 6, 3, 52, 0), none, none, some (.ldc 213, 2, (-2147483648), 0), none, some (.ireturn, 1, 0, 0), some (.sipush 200, 3, 0, 0), none, none, some (.bipush 84, 2, 0, 0), none, some (.iload_n 1, 1, 0, 0), some (.imul, 1, 0, 0), some (.iadd, 1, 0, 0), some (.iload_n 3, 1, 0, 0), some (.iadd, 1, 0, 0), some (.istore 5, 2, 0, 0), none, some (.aload_n 0, 1, 0, 0), some (.getfield 9, 3, 201, 10), none, none, some (.iload_n 2, 1, 0, 0), some (.ifCond .ne 13, 3, 82, 0), none, none, some (.iload 5, 2, 0, 0), none, some (.iconst 4, 1, 0, 0), some (.iload 4, 2, 0, 0), none, some (.imul, 1, 0, 0), some (.iadd, 1, 0, 0), some (.goto 26, 3, 105, 0), none, none, some (.iload_n 2, 1, 0, 0), some (.iconst 1, 1, 0, 0), some (.if_icmp .ne 16, 3, 100, 0), none, none, some (.iload 5, 2, 0, 0), none, some (.bipush 64, 2, 0, 0), none, some (.iadd, 1, 0, 0), some (.iconst 4, 1, 0, 0), some (.iload 4, 2, 0, 0), none, some (.imul, 1, 0, 0), some (.iadd, 1, 0, 0), some (.goto 8, 3, 105, 0), none, none, some (.iload 5, 2, 0, 0), none, some (.bipush 80, 2, 0, 0), none, some (.iadd, 1, 0, 0), some (.iaload, 1, 0, 0), some (.ireturn, 1, 0, 0)]
def tb_X10_latest : List (Option m_E) := [some (.aload_n 0, 1, 0, 0), some (.iload_n 1, 1, 0, 0), some (.invokevirtual 200, 3, 107, 1), none, none, some (.ifCond .eq 16, 3, 21, 0), none, none, some (.aload_n 0, 1, 0, 0), some (.getfield 9, 3, 201, 10), none, none, some (.sipush 186, 3, 0, 0), none, none, some (.iload_n 1, 1, 0, 0), some (.iadd, 1, 0, 0), some (.iaload, 1, 0, 0), some (.goto 4, 3, 22, 0), none, none, some (.iconst (-1), 1, 0, 0), some (.ireturn, 1, 0, 0)]
def tb_X10_leading : List (Option m_E) := [some (.iconst 0, 1, 0, 0), some (.istore_n 2, 1, 0, 0), some (.iconst 0, 1, 0, 0), some (.istore_n 3, 1, 0, 0), some (.iload_n 3, 1, 0, 0), some (.bipush 16, 2, 0, 0), none, some (.if_icmp .ge 36, 3, 43, 0), none, none, some (.iload_n 2, 1, 0, 0), some (.aload_n 0, 1, 0, 0), some (.getfield 9, 3, 201, 10), none, none, some (.sipush 1552, 3, 0, 0), none, none, some (.bipush 16, 2, 0, 0), none, some (.iload_n 1, 1, 0, 0), some (.imul, 1, 0, 0), some (.iadd, 1, 0, 0), some (.iload_n 3, 1, 0, 0), some (.iadd, 1, 0, 0), some (.iaload, 1, 0, 0), some (.iload_n 1, 1, 0, 0), some (.if_icmp .ne 7, 3, 34, 0), none, none, some (.iconst 0, 1, 0, 0), some (.goto 4, 3, 35, 0), none, none, some (.iconst 1, 1, 0, 0), some (.iadd, 1, 0, 0), some (.istore_n 2, 1, 0, 0), some (.iinc 3 1, 3, 0, 0), none, none, some (.goto (-36), 3, 4, 0), none, none, some (.iload_n 2, 1, 0, 0), some (.ireturn, 1, 0, 0)]
def tb_X10_isLedTo : List (Option m_E) := [some (.iconst 0, 1, 0, 0), some (.istore_n 2, 1, 0, 0), some (.iconst 0, 1, 0, 0), some (.istore_n 3, 1, 0, 0), some (.iload_n 3, 1, 0, 0), some (.aload_n 0, 1, 0, 0), some (.getfield 9, 3, 201, 10), none, none, some (.iconst 1, 1, 0, 0), some (.iaload, 1, 0, 0), some (.if_icmp .ge 60, 3, 71, 0), none, none, some (.iconst 0, 1, 0, 0), some (.istore 4, 2, 0, 0), none, some (.iload 4, 2, 0, 0), none, some (.bipush 16, 2, 0, 0), none, some (.if_icmp .ge 44, 3, 65, 0), none, none, some (.iload_n 2, 1, 0, 0), some (.ifCond .ne 28, 3, 53, 0), none, none, some (.iload_n 3, 1, 0, 0), some (.iload_n 1, 1, 0, 0), some (.if_icmp .eq 27, 3, 57, 0), none, none, some (.aload_n 0, 1, 0, 0), some (.getfield 9, 3, 201, 10), none, none, some (.sipush 1552, 3, 0, 0), none, none, some (.bipush 16, 2, 0, 0), none, some (.iload_n 3, 1, 0, 0), some (.imul, 1, 0, 0), some (.iadd, 1, 0, 0), some (.iload 4, 2, 0, 0), none, some (.iadd, 1, 0, 0), some (.iaload, 1, 0, 0), some (.iload_n 1, 1, 0, 0), some (.if_icmp .ne 7, 3, 57, 0), none, none, some (.iconst 1, 1, 0, 0), some (.goto 4, 3, 58, 0), none, none, some (.iconst 0, 1, 0, 0), some (.istore_n 2, 1, 0, 0), some (.iinc 4 1, 3, 0, 0), none, none, some (.goto (-45), 3, 17, 0), none, none, some (.iinc 3 1, 3, 0, 0), none, none, some (.goto (-64), 3, 4, 0), none, none, some (.iload_n 2, 1, 0, 0), some (.ireturn, 1, 0, 1)]
def tb_X10_row : List (Option m_E) := [some (.iload_n 1, 1, 0, 0), some (.iconst (-1), 1, 0, 0), some (.if_icmp .ne 12, 3, 14, 0), none, none, some (.aload_n 0, 1, 0, 0), some (.getfield 9, 3, 201, 10), none, none, some (.iconst 2, 1, 0, 0), some (.iconst 0, 1, 0, 0), some (.iastore, 1, 0, 0), some (.iconst 0, 1, 0, 0), some (.ireturn, 1, 0, 0), some (.aload_n 0, 1, 0, 0), some (.iload_n 1, 1, 0, 0), some (.invokevirtual 200, 3, 107, 1), none, none, some (.ifCond .ne 5, 3, 24, 0), none, none, some (.iconst (-1), 1, 0, 0), some (.ireturn, 1, 0, 0), some (.aload_n 0, 1, 0, 0), some (.iload_n 1, 1, 0, 0), some (.invokevirtual 214, 3, 141, 1), none, none, some (.ifCond .eq 6, 3, 35, 0), none, none, some (.bipush (-3), 2, 0, 0), none, some (.ireturn, 1, 0, 0), some (.aload_n 0, 1, 0, 0), some (.getfield 9, 3, 201, 10), none, none, some (.iconst 2, 1, 0, 0), some (.iaload, 1, 0, 0), some (.bipush 6, 2, 0, 0), none, some (.if_icmp .ne 6, 3, 49, 0), none, none, some (.bipush (-4), 2, 0, 0), none, some (.ireturn, 1, 0, 0), some (.aload_n 0, 1, 0, 0), some (.getfield 9, 3, 201, 10), none, none, some (.sipush 1680, 3, 0, 0), none, none, some (.aload_n 0, 1, 0, 0), some (.getfield 9, 3, 201, 10), none, none, some (.iconst 2, 1, 0, 0), some (.iaload, 1, 0, 0), some (.iadd, 1, 0, 0), some (.iload_n 1, 1, 0, 0), some (.iastore, 1, 0, 0), some (.aload_n 0, 1, 0, 0), some (.getfield 9, 3, 201, 10), none, none, some (.iconst 2, 1, 0, 0), some (.dup2, 1, 0, 0), some (.iaload, 1, 0, 0), some (.iconst 1, 1, 0, 0), some (.iadd, 1, 0, 0), some (.iastore, 1, 0, 0), some (.aload_n 0, 1, 0, 0), some (.getfield 9, 3, 201, 10), none, none, some (.iconst 2, 1, 0, 0), some (.iaload, 1, 0, 0), some (.ireturn, 1, 0, 0)]
def tb_X10_sends : List (Option m_E) := [some (.iconst 0, 1, 0, 0), some (.istore_n 1, 1, 0, 0), some (.iload_n 1, 1, 0, 0), some (.aload_n 0, 1, 0, 0), some (.getfield 9, 3, 201, 10), none, none, some (.iconst 2, 1, 0, 0), some (.iaload, 1, 0, 0), some (.if_icmp .ge 53, 3, 62, 0), none, none, some (.aload_n 0, 1, 0, 0), some (.aload_n 0, 1, 0, 0), some (.getfield 9, 3, 201, 10), none, none, some (.sipush 1552, 3, 0, 0), none, none, some (.bipush 16, 2, 0, 0), none, some (.aload_n 0, 1, 0, 0), some (.getfield 9, 3, 201, 10), none, none, some (.sipush 1680, 3, 0, 0), none, none, some (.iload_n 1, 1, 0, 0), some (.iadd, 1, 0, 0), some (.iaload, 1, 0, 0), some (.imul, 1, 0, 0), some (.iadd, 1, 0, 0), some (.aload_n 0, 1, 0, 0), some (.getfield 158, 3, 17, 10), none, none, some (.iadd, 1, 0, 0), some (.iaload, 1, 0, 0), some (.invokevirtual 210, 3, 134, 1), none, none, some (.istore_n 2, 1, 0, 0), some (.iload_n 2, 1, 0, 0), some (.iconst 1, 1, 0, 0), some (.if_icmp .eq 10, 3, 56, 0), none, none, some (.bipush 10, 2, 0, 0), none, some (.iload_n 1, 1, 0, 0), some (.imul, 1, 0, 0), some (.iload_n 2, 1, 0, 0), some (.iadd, 1, 0, 0), some (.ireturn, 1, 0, 0), some (.iinc 1 1, 3, 0, 0), none, none, some (.goto (-57), 3, 2, 0), none, none, some (.bipush 10, 2, 0, 0), none, some (.aload_n 0, 1, 0, 0), some (.getfield 9, 3, 201, 10), none, none, some (.iconst 2, 1, 0, 0), some (.iaload, 1, 0, 0), some (.imul, 1, 0, 0), some (.iconst 1, 1, 0, 0), some (.iadd, 1, 0, 0), some (.ireturn, 1, 0, 0)]
def tb_X10_send : List (Option m_E) := [some (.iload_n 1, 1, 0, 0), some (.iload_n 2, 1, 0, 0), some (.iload_n 3, 1, 0, 0), some (.invokestatic 203, 3, 135, 3), none, none, some (.ifCond .ne 5, 3, 11, 0), none, none, some (.iconst (-1), 1, 0, 0), some (.ireturn, 1, 0, 0), some (.iload 4, 2, 0, 0), none, some (.iconst 0, 1, 0, 0), some (.bipush 99, 2, 0, 0), none, some (.invokestatic 83, 3, 105, 3), none, none, some (.ifCond .ne 6, 3, 25, 0), none, none, some (.bipush (-2), 2, 0, 0), none, some (.ireturn, 1, 0, 0), some (.aload_n 0, 1, 0, 0), some (.getfield 9, 3, 201, 10), none, none, some (.iconst 2, 1, 0, 0), some (.iaload, 1, 0, 0), some (.ifCond .ne 6, 3, 37, 0), none, none, some (.bipush (-3), 2, 0, 0), none, some (.ireturn, 1, 0, 0), some (.aload_n 0, 1, 0, 0), some (.getfield 9, 3, 201, 10), none, none, some (.iconst 4, 1, 0, 0), some (.iaload, 1, 0, 0), some (.iload_n 1, 1, 0, 0), some (.ishr, 1, 0, 0), some (.iconst 1, 1, 0, 0), some (.iand, 1, 0, 0), some (.iconst 1, 1, 0, 0), some (.if_icmp .ne 83, 3, 131, 0), none, none, some (.aload_n 0, 1, 0, 0), some (.getfield 9, 3, 201, 10), none, none, some (.iconst 3, 1, 0, 0), some (.iaload, 1, 0, 0), some (.bipush 20, 2, 0, 0), none, some (.if_icmp .ne 6, 3, 65, 0), none, none, some (.bipush (-4), 2, 0, 0), none, some (.ireturn, 1, 0, 0), some (.sipush 1690, 3, 0, 0), none, none, some (.iconst 4, 1, 0, 0), some (.aload_n 0, 1, 0, 0), some (.getfield 9, 3, 201, 10), none, none, some (.iconst 3, 1, 0, 0), some (.iaload, 1, 0, 0), some (.imul, 1, 0, 0), some (.iadd, 1, 0, 0), some (.istore 5, 2, 0, 0), none, some (.aload_n 0, 1, 0, 0), some (.getfield 9, 3, 201, 10), none, none, some (.iload 5, 2, 0, 0), none, some (.iload_n 1, 1, 0, 0), some (.iastore, 1, 0, 0), some (.aload_n 0, 1, 0, 0), some (.getfield 9, 3, 201, 10), none, none, some (.iload 5, 2, 0, 0), none, some (.iconst 1, 1, 0, 0), some (.iadd, 1, 0, 0), some (.iload_n 2, 1, 0, 0), some (.iastore, 1, 0, 0), some (.aload_n 0, 1, 0, 0), some (.getfield 9, 3, 201, 10), none, none, some (.iload 5, 2, 0, 0), none, some (.iconst 2, 1, 0, 0), some (.iadd, 1, 0, 0), some (.iload_n 3, 1, 0, 0), some (.iastore, 1, 0, 0), some (.aload_n 0, 1, 0, 0), some (.getfield 9, 3, 201, 10), none, none, some (.iload 5, 2, 0, 0), none, some (.iconst 3, 1, 0, 0), some (.iadd, 1, 0, 0), some (.iload 4, 2, 0, 0), none, some (.iastore, 1, 0, 0), some (.aload_n 0, 1, 0, 0), some (.getfield 9, 3, 201, 10), none, none, some (.iconst 3, 1, 0, 0), some (.dup2, 1, 0, 0), some (.iaload, 1, 0, 0), some (.iconst 1, 1, 0, 0), some (.iadd, 1, 0, 0), some (.iastore, 1, 0, 0), some (.bipush (-6), 2, 0, 0), none, some (.ireturn, 1, 0, 0), some (.aload_n 0, 1, 0, 0), some (.iload_n 1, 1, 0, 0), some (.iload_n 2, 1, 0, 0), some (.iload_n 3, 1, 0, 0), some (.iload 4, 2, 0, 0), none, some (.invokevirtual 206, 3, 133, 4), none, none, some (.aload_n 0, 1, 0, 0), some (.invokevirtual 217, 3, 143, 0), none, none, some (.ireturn, 1, 0, 0)]
def tb_X10_isInRow : List (Option m_E) := [some (.iconst 0, 1, 0, 0), some (.istore_n 2, 1, 0, 0), some (.iconst 0, 1, 0, 0), some (.istore_n 3, 1, 0, 0), some (.iload_n 3, 1, 0, 0), some (.aload_n 0, 1, 0, 0), some (.getfield 9, 3, 201, 10), none, none, some (.iconst 2, 1, 0, 0), some (.iaload, 1, 0, 0), some (.if_icmp .ge 33, 3, 44, 0), none, none, some (.iload_n 2, 1, 0, 0), some (.ifCond .ne 17, 3, 32, 0), none, none, some (.aload_n 0, 1, 0, 0), some (.getfield 9, 3, 201, 10), none, none, some (.sipush 1680, 3, 0, 0), none, none, some (.iload_n 3, 1, 0, 0), some (.iadd, 1, 0, 0), some (.iaload, 1, 0, 0), some (.iload_n 1, 1, 0, 0), some (.if_icmp .ne 7, 3, 36, 0), none, none, some (.iconst 1, 1, 0, 0), some (.goto 4, 3, 37, 0), none, none, some (.iconst 0, 1, 0, 0), some (.istore_n 2, 1, 0, 0), some (.iinc 3 1, 3, 0, 0), none, none, some (.goto (-37), 3, 4, 0), none, none, some (.iload_n 2, 1, 0, 0), some (.ireturn, 1, 0, 1)]
def tb_X10_lead : List (Option m_E) := [some (.aload_n 0, 1, 0, 0), some (.iload_n 1, 1, 0, 0), some (.invokevirtual 200, 3, 107, 1), none, none, some (.ifCond .eq 11, 3, 16, 0), none, none, some (.aload_n 0, 1, 0, 0), some (.iload_n 2, 1, 0, 0), some (.invokevirtual 200, 3, 107, 1), none, none, some (.ifCond .ne 5, 3, 18, 0), none, none, some (.iconst (-1), 1, 0, 0), some (.ireturn, 1, 0, 0), some (.iload_n 3, 1, 0, 0), some (.iconst 0, 1, 0, 0), some (.ldc 220, 2, 65535, 0), none, some (.invokestatic 83, 3, 105, 3), none, none, some (.ifCond .ne 6, 3, 31, 0), none, none, some (.bipush (-2), 2, 0, 0), none, some (.ireturn, 1, 0, 0), some (.iload_n 1, 1, 0, 0), some (.iload_n 2, 1, 0, 0), some (.if_icmp .eq 19, 3, 52, 0), none, none, some (.aload_n 0, 1, 0, 0), some (.iload_n 2, 1, 0, 0), some (.invokevirtual 221, 3, 145, 1), none, none, some (.ifCond .ne 19, 3, 60, 0), none, none, some (.aload_n 0, 1, 0, 0), some (.iload_n 2, 1, 0, 0), some (.invokevirtual 224, 3, 140, 1), none, none, some (.ifCond .gt 11, 3, 60, 0), none, none, some (.aload_n 0, 1, 0, 0), some (.iload_n 1, 1, 0, 0), some (.invokevirtual 214, 3, 141, 1), none, none, some (.ifCond .eq 6, 3, 63, 0), none, none, some (.bipush (-3), 2, 0, 0), none, some (.ireturn, 1, 0, 0), some (.iconst 0, 1, 0, 0), some (.istore 4, 2, 0, 0), none, some (.iload 4, 2, 0, 0), none, some (.bipush 16, 2, 0, 0), none, some (.if_icmp .ge 141, 3, 211, 0), none, none, some (.aload_n 0, 1, 0, 0), some (.getfield 9, 3, 201, 10), none, none, some (.sipush 1552, 3, 0, 0), none, none, some (.bipush 16, 2, 0, 0), none, some (.iload_n 1, 1, 0, 0), some (.imul, 1, 0, 0), some (.iadd, 1, 0, 0), some (.iload 4, 2, 0, 0), none, some (.iadd, 1, 0, 0), some (.iaload, 1, 0, 0), some (.istore 5, 2, 0, 0), none, some (.iload_n 3, 1, 0, 0), some (.iload 4, 2, 0, 0), none, some (.ishr, 1, 0, 0), some (.iconst 1, 1, 0, 0), some (.iand, 1, 0, 0), some (.iconst 1, 1, 0, 0), some (.if_icmp .ne 107, 3, 205, 0), none, none, some (.iload 5, 2, 0, 0), none, some (.iload_n 2, 1, 0, 0), some (.if_icmp .eq 101, 3, 205, 0), none, none, some (.iconst 0, 1, 0, 0), some (.istore 6, 2, 0, 0), none, some (.iload 6, 2, 0, 0), none, some (.iconst 4, 1, 0, 0), some (.if_icmp .ge 75, 3, 188, 0), none, none, some (.aload_n 0, 1, 0, 0), some (.getfield 9, 3, 201, 10), none, none, some (.sipush 200, 3, 0, 0), none, none, some (.bipush 84, 2, 0, 0), none, some (.iload_n 2, 1, 0, 0), some (.imul, 1, 0, 0), some (.iadd, 1, 0, 0), some (.iconst 4, 1, 0, 0), some (.iload 4, 2, 0, 0), none, some (.imul, 1, 0, 0), some (.iadd, 1, 0, 0), some (.iload 6, 2, 0, 0), none, some (.iadd, 1, 0, 0), some (.aload_n 0, 1, 0, 0), some (.getfield 9, 3, 201, 10), none, none, some (.sipush 200, 3, 0, 0), none, none, some (.bipush 84, 2, 0, 0), none, some (.iload 5, 2, 0, 0), none, some (.imul, 1, 0, 0), some (.iadd, 1, 0, 0), some (.iconst 4, 1, 0, 0), some (.iload 4, 2, 0, 0), none, some (.imul, 1, 0, 0), some (.iadd, 1, 0, 0), some (.iload 6, 2, 0, 0), none, some (.iadd, 1, 0, 0), some (.iaload, 1, 0, 0), some (.iastore, 1, 0, 0), some (.aload_n 0, 1, 0, 0), some (.getfield 9, 3, 201, 10), none, none, some (.sipush 200, 3, 0, 0), none, none, some (.bipush 84, 2, 0, 0), none, some (.iload 5, 2, 0, 0), none, some (.imul, 1, 0, 0), some (.iadd, 1, 0, 0), some (.iconst 4, 1, 0, 0), some (.iload 4, 2, 0, 0), none, some (.imul, 1, 0, 0), some (.iadd, 1, 0, 0), some (.iload 6, 2, 0, 0), none, some (.iadd, 1, 0, 0), some (.iconst 0, 1, 0, 0), some (.iastore, 1, 0, 0), some (.iinc 6 1, 3, 0, 0), none, none, some (.goto (-75), 3, 110, 0), none, none, some (.aload_n 0, 1, 0, 0), some (.getfield 9, 3, 201, 10), none, none, some (.sipush 1552, 3, 0, 0), none, none, some (.bipush 16, 2, 0, 0), none, some (.iload_n 1, 1, 0, 0), some (.imul, 1, 0, 0), some (.iadd, 1, 0, 0), some (.iload 4, 2, 0, 0), none, some (.iadd, 1, 0, 0), some (.iload_n 2, 1, 0, 0), some (.iastore, 1, 0, 0), some (.iinc 4 1, 3, 0, 0), none, none, some (.goto (-142), 3, 66, 0), none, none, some (.aload_n 0, 1, 0, 0), some (.iload_n 1, 1, 0, 0), some (.invokevirtual 224, 3, 140, 1), none, none, some (.ireturn, 1, 0, 0)]
def tb_X10_led : List (Option m_E) := [some (.aload_n 0, 1, 0, 0), some (.iload_n 1, 1, 0, 0), some (.invokevirtual 200, 3, 107, 1), none, none, some (.ifCond .eq 28, 3, 33, 0), none, none, some (.iload_n 2, 1, 0, 0), some (.invokestatic 197, 3, 108, 1), none, none, some (.ifCond .eq 21, 3, 33, 0), none, none, some (.aload_n 0, 1, 0, 0), some (.getfield 9, 3, 201, 10), none, none, some (.sipush 1552, 3, 0, 0), none, none, some (.bipush 16, 2, 0, 0), none, some (.iload_n 1, 1, 0, 0), some (.imul, 1, 0, 0), some (.iadd, 1, 0, 0), some (.iload_n 2, 1, 0, 0), some (.iadd, 1, 0, 0), some (.iaload, 1, 0, 0), some (.goto 4, 3, 34, 0), none, none, some (.iconst (-1), 1, 0, 0), some (.ireturn, 1, 0, 0)]
def tb_X10_hold : List (Option m_E) := [some (.iload_n 1, 1, 0, 0), some (.iconst 0, 1, 0, 0), some (.ldc 220, 2, 65535, 0), none, some (.invokestatic 83, 3, 105, 3), none, none, some (.ifCond .ne 6, 3, 13, 0), none, none, some (.bipush (-2), 2, 0, 0), none, some (.ireturn, 1, 0, 0), some (.aload_n 0, 1, 0, 0), some (.getfield 9, 3, 201, 10), none, none, some (.iconst 4, 1, 0, 0), some (.dup2, 1, 0, 0), some (.iaload, 1, 0, 0), some (.iload_n 1, 1, 0, 0), some (.ior, 1, 0, 0), some (.iastore, 1, 0, 0), some (.aload_n 0, 1, 0, 0), some (.getfield 9, 3, 201, 10), none, none, some (.iconst 4, 1, 0, 0), some (.iaload, 1, 0, 0), some (.invokestatic 227, 3, 110, 1), none, none, some (.ireturn, 1, 0, 0)]
def tb_X10_release : List (Option m_E) := [some (.aload_n 0, 1, 0, 0), some (.getfield 9, 3, 201, 10), none, none, some (.iconst 3, 1, 0, 0), some (.iaload, 1, 0, 0), some (.istore_n 1, 1, 0, 0), some (.aload_n 0, 1, 0, 0), some (.getfield 9, 3, 201, 10), none, none, some (.iconst 2, 1, 0, 0), some (.iaload, 1, 0, 0), some (.ifCond .ne 10, 3, 23, 0), none, none, some (.iload_n 1, 1, 0, 0), some (.ifCond .le 6, 3, 23, 0), none, none, some (.bipush (-3), 2, 0, 0), none, some (.ireturn, 1, 0, 0), some (.aload_n 0, 1, 0, 0), some (.getfield 9, 3, 201, 10), none, none, some (.iconst 4, 1, 0, 0), some (.iconst 0, 1, 0, 0), some (.iastore, 1, 0, 0), some (.aload_n 0, 1, 0, 0), some (.getfield 9, 3, 201, 10), none, none, some (.iconst 3, 1, 0, 0), some (.iconst 0, 1, 0, 0), some (.iastore, 1, 0, 0), some (.iconst 0, 1, 0, 0), some (.istore_n 2, 1, 0, 0), some (.iload_n 2, 1, 0, 0), some (.iload_n 1, 1, 0, 0), some (.if_icmp .ge 57, 3, 98, 0), none, none, some (.sipush 1690, 3, 0, 0), none, none, some (.iconst 4, 1, 0, 0), some (.iload_n 2, 1, 0, 0), some (.imul, 1, 0, 0), some (.iadd, 1, 0, 0), some (.istore_n 3, 1, 0, 0), some (.aload_n 0, 1, 0, 0), some (.aload_n 0, 1, 0, 0), some (.getfield 9, 3, 201, 10), none, none, some (.iload_n 3, 1, 0, 0), some (.iaload, 1, 0, 0), some (.aload_n 0, 1, 0, 0), some (.getfield 9, 3, 201, 10), none, none, some (.iload_n 3, 1, 0, 0), some (.iconst 1, 1, 0, 0), some (.iadd, 1, 0, 0), some (.iaload, 1, 0, 0), some (.aload_n 0, 1, 0, 0), some (.getfield 9, 3, 201, 10), none, none, some (.iload_n 3, 1, 0, 0), some (.iconst 2, 1, 0, 0), some (.iadd, 1, 0, 0), some (.iaload, 1, 0, 0), some (.aload_n 0, 1, 0, 0), some (.getfield 9, 3, 201, 10), none, none, some (.iload_n 3, 1, 0, 0), some (.iconst 3, 1, 0, 0), some (.iadd, 1, 0, 0), some (.iaload, 1, 0, 0), some (.invokevirtual 206, 3, 133, 4), none, none, some (.aload_n 0, 1, 0, 0), some (.invokevirtual 217, 3, 143, 0), none, none, some (.istore 4, 2, 0, 0), none, some (.iinc 2 1, 3, 0, 0), none, none, some (.goto (-56), 3, 39, 0), none, none, some (.iload_n 1, 1, 0, 0), some (.ireturn, 1, 0, 0)]
def tb_X10_whole : List (Option m_E) := [some (.aload_n 0, 1, 0, 0), some (.iload_n 1, 1, 0, 0), some (.invokevirtual 200, 3, 107, 1), none, none, some (.ifCond .eq 19, 3, 24, 0), none, none, some (.aload_n 0, 1, 0, 0), some (.iload_n 2, 1, 0, 0), some (.invokevirtual 200, 3, 107, 1), none, none, some (.ifCond .eq 11, 3, 24, 0), none, none, some (.aload_n 0, 1, 0, 0), some (.iload_n 3, 1, 0, 0), some (.invokevirtual 200, 3, 107, 1), none, none, some (.ifCond .ne 5, 3, 26, 0), none, none, some (.iconst (-1), 1, 0, 0), some (.ireturn, 1, 0, 0), some (.iload_n 1, 1, 0, 0), some (.iload_n 2, 1, 0, 0), some (.if_icmp .eq 13, 3, 41, 0), none, none, some (.iload_n 1, 1, 0, 0), some (.iload_n 3, 1, 0, 0), some (.if_icmp .eq 8, 3, 41, 0), none, none, some (.iload_n 2, 1, 0, 0), some (.iload_n 3, 1, 0, 0), some (.if_icmp .ne 6, 3, 44, 0), none, none, some (.bipush (-2), 2, 0, 0), none, some (.ireturn, 1, 0, 0), some (.iconst 1, 1, 0, 0), some (.istore 4, 2, 0, 0), none, some (.iconst 0, 1, 0, 0), some (.istore 5, 2, 0, 0), none, some (.iload 5, 2, 0, 0), none, some (.bipush 84, 2, 0, 0), none, some (.if_icmp .ge 120, 3, 174, 0), none, none, some (.iload 5, 2, 0, 0), none, some (.bipush 64, 2, 0, 0), none, some (.if_icmp .ge 39, 3, 100, 0), none, none, some (.aload_n 0, 1, 0, 0), some (.getfield 9, 3, 201, 10), none, none, some (.sipush 200, 3, 0, 0), none, none, some (.bipush 84, 2, 0, 0), none, some (.aload_n 0, 1, 0, 0), some (.getfield 9, 3, 201, 10), none, none, some (.sipush 1552, 3, 0, 0), none, none, some (.bipush 16, 2, 0, 0), none, some (.iload_n 1, 1, 0, 0), some (.imul, 1, 0, 0), some (.iadd, 1, 0, 0), some (.iload 5, 2, 0, 0), none, some (.iconst 4, 1, 0, 0), some (.idiv, 1, 0, 0), some (.iadd, 1, 0, 0), some (.iaload, 1, 0, 0), some (.imul, 1, 0, 0), some (.iadd, 1, 0, 0), some (.iload 5, 2, 0, 0), none, some (.iadd, 1, 0, 0), some (.iaload, 1, 0, 0), some (.goto 36, 3, 133, 0), none, none, some (.aload_n 0, 1, 0, 0), some (.getfield 9, 3, 201, 10), none, none, some (.sipush 200, 3, 0, 0), none, none, some (.bipush 84, 2, 0, 0), none, some (.iload_n 1, 1, 0, 0), some (.imul, 1, 0, 0), some (.iadd, 1, 0, 0), some (.iload 5, 2, 0, 0), none, some (.iadd, 1, 0, 0), some (.iaload, 1, 0, 0), some (.aload_n 0, 1, 0, 0), some (.getfield 9, 3, 201, 10), none, none, some (.sipush 200, 3, 0, 0), none, none, some (.bipush 84, 2, 0, 0), none, some (.iload_n 2, 1, 0, 0), some (.imul, 1, 0, 0), some (.iadd, 1, 0, 0), some (.iload 5, 2, 0, 0), none, some (.iadd, 1, 0, 0), some (.iaload, 1, 0, 0), some (.iadd, 1, 0, 0), some (.istore 6, 2, 0, 0), none, some (.iload 4, 2, 0, 0), none, some (.ifCond .eq 28, 3, 165, 0), none, none, some (.iload 6, 2, 0, 0), none, some (.aload_n 0, 1, 0, 0), some (.getfield 9, 3, 201, 10), none, none, some (.sipush 200, 3, 0, 0), none, none, some (.bipush 84, 2, 0, 0), none, some (.iload_n 3, 1, 0, 0), some (.imul, 1, 0, 0), some (.iadd, 1, 0, 0), some (.iload 5, 2, 0, 0), none, some (.iadd, 1, 0, 0), some (.iaload, 1, 0, 0), some (.if_icmp .ne 7, 3, 165, 0), none, none, some (.iconst 1, 1, 0, 0), some (.goto 4, 3, 166, 0), none, none, some (.iconst 0, 1, 0, 0), some (.istore 4, 2, 0, 0), none, some (.iinc 5 1, 3, 0, 0), none, none, some (.goto (-121), 3, 50, 0), none, none, some (.iload 4, 2, 0, 0), none, some (.ifCond .eq 7, 3, 183, 0), none, none, some (.iconst 1, 1, 0, 0), some (.goto 4, 3, 184, 0), none, none, some (.iconst 0, 1, 0, 0), some (.ireturn, 1, 0, 0)]
def tb_X10_copy : List (Option m_E) := [some (.aload_n 0, 1, 0, 0), some (.iload_n 1, 1, 0, 0), some (.invokevirtual 200, 3, 107, 1), none, none, some (.ifCond .ne 5, 3, 10, 0), none, none, some (.iconst (-1), 1, 0, 0), some (.ireturn, 1, 0, 0), some (.iconst 0, 1, 0, 0), some (.istore_n 2, 1, 0, 0), some (.iload_n 2, 1, 0, 0), some (.bipush 84, 2, 0, 0), none, some (.if_icmp .ge 39, 3, 54, 0), none, none, some (.aload_n 0, 1, 0, 0), some (.getfield 9, 3, 201, 10), none, none, some (.sipush 880, 3, 0, 0), none, none, some (.bipush 84, 2, 0, 0), none, some (.iload_n 1, 1, 0, 0), some (.imul, 1, 0, 0), some (.iadd, 1, 0, 0), some (.iload_n 2, 1, 0, 0), some (.iadd, 1, 0, 0), some (.aload_n 0, 1, 0, 0), some (.getfield 9, 3, 201, 10), none, none, some (.sipush 200, 3, 0, 0), none, none, some (.bipush 84, 2, 0, 0), none, some (.iload_n 1, 1, 0, 0), some (.imul, 1, 0, 0), some (.iadd, 1, 0, 0), some (.iload_n 2, 1, 0, 0), some (.iadd, 1, 0, 0), some (.iaload, 1, 0, 0), some (.iastore, 1, 0, 0), some (.iinc 2 1, 3, 0, 0), none, none, some (.goto (-39), 3, 12, 0), none, none, some (.aload_n 0, 1, 0, 0), some (.getfield 9, 3, 201, 10), none, none, some (.sipush 872, 3, 0, 0), none, none, some (.iload_n 1, 1, 0, 0), some (.iadd, 1, 0, 0), some (.dup2, 1, 0, 0), some (.iaload, 1, 0, 0), some (.iconst 1, 1, 0, 0), some (.iadd, 1, 0, 0), some (.iastore, 1, 0, 0), some (.aload_n 0, 1, 0, 0), some (.getfield 9, 3, 201, 10), none, none, some (.sipush 872, 3, 0, 0), none, none, some (.iload_n 1, 1, 0, 0), some (.iadd, 1, 0, 0), some (.iaload, 1, 0, 0), some (.iconst 1, 1, 0, 0), some (.isub, 1, 0, 0), some (.ireturn, 1, 0, 0)]
def tb_X10_fall : List (Option m_E) := [some (.aload_n 0, 1, 0, 0), some (.iload_n 1, 1, 0, 0), some (.invokevirtual 200, 3, 107, 1), none, none, some (.ifCond .ne 5, 3, 10, 0), none, none, some (.iconst (-1), 1, 0, 0), some (.ireturn, 1, 0, 0), some (.ldc 220, 2, 65535, 0), none, some (.istore_n 2, 1, 0, 0), some (.iconst 0, 1, 0, 0), some (.istore_n 3, 1, 0, 0), some (.iload_n 3, 1, 0, 0), some (.bipush 84, 2, 0, 0), none, some (.if_icmp .ge 93, 3, 111, 0), none, none, some (.iload_n 2, 1, 0, 0), some (.iload_n 3, 1, 0, 0), some (.bipush 64, 2, 0, 0), none, some (.if_icmp .ge 46, 3, 71, 0), none, none, some (.aload_n 0, 1, 0, 0), some (.getfield 9, 3, 201, 10), none, none, some (.sipush 880, 3, 0, 0), none, none, some (.bipush 84, 2, 0, 0), none, some (.iload_n 1, 1, 0, 0), some (.imul, 1, 0, 0), some (.iadd, 1, 0, 0), some (.iload_n 3, 1, 0, 0), some (.iadd, 1, 0, 0), some (.iaload, 1, 0, 0), some (.aload_n 0, 1, 0, 0), some (.getfield 9, 3, 201, 10), none, none, some (.sipush 200, 3, 0, 0), none, none, some (.bipush 84, 2, 0, 0), none, some (.iload_n 1, 1, 0, 0), some (.imul, 1, 0, 0), some (.iadd, 1, 0, 0), some (.iload_n 3, 1, 0, 0), some (.iadd, 1, 0, 0), some (.iaload, 1, 0, 0), some (.if_icmp .eq 13, 3, 71, 0), none, none, some (.iconst 1, 1, 0, 0), some (.iload_n 3, 1, 0, 0), some (.iconst 4, 1, 0, 0), some (.idiv, 1, 0, 0), some (.ishl, 1, 0, 0), some (.iconst (-1), 1, 0, 0), some (.ixor, 1, 0, 0), some (.goto 5, 3, 73, 0), none, none, some (.ldc 220, 2, 65535, 0), none, some (.iand, 1, 0, 0), some (.istore_n 2, 1, 0, 0), some (.aload_n 0, 1, 0, 0), some (.getfield 9, 3, 201, 10), none, none, some (.sipush 200, 3, 0, 0), none, none, some (.bipush 84, 2, 0, 0), none, some (.iload_n 1, 1, 0, 0), some (.imul, 1, 0, 0), some (.iadd, 1, 0, 0), some (.iload_n 3, 1, 0, 0), some (.iadd, 1, 0, 0), some (.aload_n 0, 1, 0, 0), some (.getfield 9, 3, 201, 10), none, none, some (.sipush 880, 3, 0, 0), none, none, some (.bipush 84, 2, 0, 0), none, some (.iload_n 1, 1, 0, 0), some (.imul, 1, 0, 0), some (.iadd, 1, 0, 0), some (.iload_n 3, 1, 0, 0), some (.iadd, 1, 0, 0), some (.iaload, 1, 0, 0), some (.iastore, 1, 0, 0), some (.iinc 3 1, 3, 0, 0), none, none, some (.goto (-93), 3, 15, 0), none, none, some (.iload_n 2, 1, 0, 0), some (.ireturn, 1, 0, 0)]
def tb_X10_letter : List (Option m_E) := [some (.iload_n 1, 1, 0, 0), some (.iload_n 2, 1, 0, 0), some (.iload_n 3, 1, 0, 0), some (.invokestatic 203, 3, 135, 3), none, none, some (.ifCond .ne 5, 3, 11, 0), none, none, some (.iconst (-1), 1, 0, 0), some (.ireturn, 1, 0, 0), some (.iload 4, 2, 0, 0), none, some (.iconst 0, 1, 0, 0), some (.bipush 99, 2, 0, 0), none, some (.invokestatic 83, 3, 105, 3), none, none, some (.ifCond .ne 6, 3, 25, 0), none, none, some (.bipush (-2), 2, 0, 0), none, some (.ireturn, 1, 0, 0), some (.aload_n 0, 1, 0, 0), some (.getfield 9, 3, 201, 10), none, none, some (.iconst 5, 1, 0, 0), some (.iaload, 1, 0, 0), some (.iconst 5, 1, 0, 0), some (.if_icmp .ne 6, 3, 38, 0), none, none, some (.bipush (-4), 2, 0, 0), none, some (.ireturn, 1, 0, 0), some (.sipush 1770, 3, 0, 0), none, none, some (.iconst 4, 1, 0, 0), some (.aload_n 0, 1, 0, 0), some (.getfield 9, 3, 201, 10), none, none, some (.iconst 5, 1, 0, 0), some (.iaload, 1, 0, 0), some (.imul, 1, 0, 0), some (.iadd, 1, 0, 0), some (.istore 5, 2, 0, 0), none, some (.aload_n 0, 1, 0, 0), some (.getfield 9, 3, 201, 10), none, none, some (.iload 5, 2, 0, 0), none, some (.iload_n 1, 1, 0, 0), some (.iastore, 1, 0, 0), some (.aload_n 0, 1, 0, 0), some (.getfield 9, 3, 201, 10), none, none, some (.iload 5, 2, 0, 0), none, some (.iconst 1, 1, 0, 0), some (.iadd, 1, 0, 0), some (.iload_n 2, 1, 0, 0), some (.iastore, 1, 0, 0), some (.aload_n 0, 1, 0, 0), some (.getfield 9, 3, 201, 10), none, none, some (.iload 5, 2, 0, 0), none, some (.iconst 2, 1, 0, 0), some (.iadd, 1, 0, 0), some (.iload_n 3, 1, 0, 0), some (.iastore, 1, 0, 0), some (.aload_n 0, 1, 0, 0), some (.getfield 9, 3, 201, 10), none, none, some (.iload 5, 2, 0, 0), none, some (.iconst 3, 1, 0, 0), some (.iadd, 1, 0, 0), some (.iload 4, 2, 0, 0), none, some (.iastore, 1, 0, 0), some (.aload_n 0, 1, 0, 0), some (.getfield 9, 3, 201, 10), none, none, some (.iconst 5, 1, 0, 0), some (.dup2, 1, 0, 0), some (.iaload, 1, 0, 0), some (.iconst 1, 1, 0, 0), some (.iadd, 1, 0, 0), some (.iastore, 1, 0, 0), some (.aload_n 0, 1, 0, 0), some (.getfield 9, 3, 201, 10), none, none, some (.iconst 5, 1, 0, 0), some (.iaload, 1, 0, 0), some (.ireturn, 1, 0, 0)]
def tb_X10_empties : List (Option m_E) := [some (.aload_n 0, 1, 0, 0), some (.iconst 1, 1, 0, 0), some (.putfield 170, 3, 121, 10), none, none, some (.iconst 0, 1, 0, 0), some (.istore_n 1, 1, 0, 0), some (.iload_n 1, 1, 0, 0), some (.bipush 84, 2, 0, 0), none, some (.aload_n 0, 1, 0, 0), some (.getfield 230, 3, 27, 10), none, none, some (.imul, 1, 0, 0), some (.if_icmp .ge 16, 3, 31, 0), none, none, some (.aload_n 0, 1, 0, 0), some (.getfield 33, 3, 215, 10), none, none, some (.iload_n 1, 1, 0, 0), some (.iconst 0, 1, 0, 0), some (.iastore, 1, 0, 0), some (.iinc 1 1, 3, 0, 0), none, none, some (.goto (-21), 3, 7, 0), none, none, some (.return_, 1, 0, 0)]
def tb_X10_tries : List (Option m_E) := [some (.sipush 1770, 3, 0, 0), none, none, some (.iconst 4, 1, 0, 0), some (.iload_n 1, 1, 0, 0), some (.imul, 1, 0, 0), some (.iadd, 1, 0, 0), some (.istore_n 2, 1, 0, 0), some (.aload_n 0, 1, 0, 0), some (.aload_n 0, 1, 0, 0), some (.getfield 9, 3, 201, 10), none, none, some (.iload_n 2, 1, 0, 0), some (.iaload, 1, 0, 0), some (.aload_n 0, 1, 0, 0), some (.getfield 9, 3, 201, 10), none, none, some (.iload_n 2, 1, 0, 0), some (.iconst 1, 1, 0, 0), some (.iadd, 1, 0, 0), some (.iaload, 1, 0, 0), some (.aload_n 0, 1, 0, 0), some (.getfield 9, 3, 201, 10), none, none, some (.iload_n 2, 1, 0, 0), some (.iconst 2, 1, 0, 0), some (.iadd, 1, 0, 0), some (.iaload, 1, 0, 0), some (.aload_n 0, 1, 0, 0), some (.getfield 9, 3, 201, 10), none, none, some (.iload_n 2, 1, 0, 0), some (.iconst 3, 1, 0, 0), some (.iadd, 1, 0, 0), some (.iaload, 1, 0, 0), some (.invokevirtual 206, 3, 133, 4), none, none, some (.iconst 0, 1, 0, 0), some (.istore_n 3, 1, 0, 0), some (.iload_n 3, 1, 0, 0), some (.aload_n 0, 1, 0, 0), some (.getfield 230, 3, 27, 10), none, none, some (.if_icmp .ge 38, 3, 87, 0), none, none, some (.aload_n 0, 1, 0, 0), some (.bipush 84, 2, 0, 0), none, some (.iload_n 3, 1, 0, 0), some (.imul, 1, 0, 0), some (.putfield 155, 3, 22, 10), none, none, some (.aload_n 0, 1, 0, 0), some (.aload_n 0, 1, 0, 0), some (.getfield 46, 3, 226, 10), none, none, some (.iload_n 3, 1, 0, 0), some (.iaload, 1, 0, 0), some (.invokevirtual 194, 3, 132, 1), none, none, some (.istore 4, 2, 0, 0), none, some (.iload 4, 2, 0, 0), none, some (.iconst 1, 1, 0, 0), some (.if_icmp .eq 6, 3, 81, 0), none, none, some (.iload 4, 2, 0, 0), none, some (.ireturn, 1, 0, 0), some (.iinc 3 1, 3, 0, 0), none, none, some (.goto (-40), 3, 44, 0), none, none, some (.iconst 1, 1, 0, 0), some (.ireturn, 1, 0, 0)]
def tb_X10_isKept : List (Option m_E) := [some (.iload_n 1, 1, 0, 0), some (.iconst 2, 1, 0, 0), some (.if_icmp .ne 22, 3, 24, 0), none, none, some (.aload_n 0, 1, 0, 0), some (.getfield 64, 3, 233, 10), none, none, some (.aload_n 0, 1, 0, 0), some (.getfield 158, 3, 17, 10), none, none, some (.iaload, 1, 0, 0), some (.iload_n 2, 1, 0, 0), some (.if_icmp .gt 7, 3, 22, 0), none, none, some (.iconst 1, 1, 0, 0), some (.goto 4, 3, 23, 0), none, none, some (.iconst 0, 1, 0, 0), some (.ireturn, 1, 0, 1), some (.iconst 0, 1, 0, 0), some (.istore_n 3, 1, 0, 0), some (.iconst 0, 1, 0, 0), some (.istore 4, 2, 0, 0), none, some (.iconst 0, 1, 0, 0), some (.istore 5, 2, 0, 0), none, some (.iload 5, 2, 0, 0), none, some (.bipush 16, 2, 0, 0), none, some (.if_icmp .ge 106, 3, 142, 0), none, none, some (.aload_n 0, 1, 0, 0), some (.getfield 52, 3, 229, 10), none, none, some (.aload_n 0, 1, 0, 0), some (.getfield 158, 3, 17, 10), none, none, some (.baload, 1, 0, 0), some (.ifCond .eq 94, 3, 142, 0), none, none, some (.iload_n 1, 1, 0, 0), some (.ifCond .eq 90, 3, 142, 0), none, none, some (.iload_n 1, 1, 0, 0), some (.iconst 4, 1, 0, 0), some (.if_icmp .eq 85, 3, 142, 0), none, none, some (.iload_n 3, 1, 0, 0), some (.aload_n 0, 1, 0, 0), some (.getfield 52, 3, 229, 10), none, none, some (.iload 5, 2, 0, 0), none, some (.baload, 1, 0, 0), some (.ifCond .eq 26, 3, 94, 0), none, none, some (.aload_n 0, 1, 0, 0), some (.getfield 58, 3, 231, 10), none, none, some (.aload_n 0, 1, 0, 0), some (.getfield 158, 3, 17, 10), none, none, some (.iaload, 1, 0, 0), some (.aload_n 0, 1, 0, 0), some (.getfield 58, 3, 231, 10), none, none, some (.iload 5, 2, 0, 0), none, some (.iaload, 1, 0, 0), some (.if_icmp .ne 7, 3, 94, 0), none, none, some (.iconst 1, 1, 0, 0), some (.goto 4, 3, 95, 0), none, none, some (.iconst 0, 1, 0, 0), some (.iadd, 1, 0, 0), some (.istore_n 3, 1, 0, 0), some (.iload 4, 2, 0, 0), none, some (.aload_n 0, 1, 0, 0), some (.getfield 52, 3, 229, 10), none, none, some (.iload 5, 2, 0, 0), none, some (.baload, 1, 0, 0), some (.ifCond .eq 26, 3, 132, 0), none, none, some (.aload_n 0, 1, 0, 0), some (.getfield 61, 3, 232, 10), none, none, some (.aload_n 0, 1, 0, 0), some (.getfield 158, 3, 17, 10), none, none, some (.iaload, 1, 0, 0), some (.aload_n 0, 1, 0, 0), some (.getfield 61, 3, 232, 10), none, none, some (.iload 5, 2, 0, 0), none, some (.iaload, 1, 0, 0), some (.if_icmp .ne 7, 3, 132, 0), none, none, some (.iconst 1, 1, 0, 0), some (.goto 4, 3, 133, 0), none, none, some (.iconst 0, 1, 0, 0), some (.iadd, 1, 0, 0), some (.istore 4, 2, 0, 0), none, some (.iinc 5 1, 3, 0, 0), none, none, some (.goto (-107), 3, 32, 0), none, none, some (.iload_n 1, 1, 0, 0), some (.iconst 1, 1, 0, 0), some (.if_icmp .ne 8, 3, 152, 0), none, none, some (.iload_n 3, 1, 0, 0), some (.iload_n 2, 1, 0, 0), some (.if_icmp .gt 18, 3, 167, 0), none, none, some (.iload_n 1, 1, 0, 0), some (.iconst 3, 1, 0, 0), some (.if_icmp .ne 9, 3, 163, 0), none, none, some (.iload 4, 2, 0, 0), none, some (.iconst 1, 1, 0, 0), some (.if_icmp .gt 7, 3, 167, 0), none, none, some (.iconst 1, 1, 0, 0), some (.goto 4, 3, 168, 0), none, none, some (.iconst 0, 1, 0, 0), some (.ireturn, 1, 0, 1)]
def tb_X10_keeps : List (Option m_E) := [some (.aload_n 0, 1, 0, 0), some (.invokevirtual 233, 3, 154, 0), none, none, some (.iconst 0, 1, 0, 0), some (.istore 4, 2, 0, 0), none, some (.iload 4, 2, 0, 0), none, some (.bipush 16, 2, 0, 0), none, some (.if_icmp .ge 41, 3, 52, 0), none, none, some (.aload_n 0, 1, 0, 0), some (.getfield 49, 3, 228, 10), none, none, some (.iload 4, 2, 0, 0), none, some (.iconst 0, 1, 0, 0), some (.bastore, 1, 0, 0), some (.aload_n 0, 1, 0, 0), some (.getfield 52, 3, 229, 10), none, none, some (.iload 4, 2, 0, 0), none, some (.iconst 0, 1, 0, 0), some (.bastore, 1, 0, 0), some (.aload_n 0, 1, 0, 0), some (.getfield 55, 3, 230, 10), none, none, some (.iload 4, 2, 0, 0), none, some (.iconst 0, 1, 0, 0), some (.bastore, 1, 0, 0), some (.aload_n 0, 1, 0, 0), some (.getfield 64, 3, 233, 10), none, none, some (.iload 4, 2, 0, 0), none, some (.iconst 0, 1, 0, 0), some (.iastore, 1, 0, 0), some (.iinc 4 1, 3, 0, 0), none, none, some (.goto (-42), 3, 7, 0), none, none, some (.iconst 0, 1, 0, 0), some (.istore 4, 2, 0, 0), none, some (.iload 4, 2, 0, 0), none, some (.iload_n 1, 1, 0, 0), some (.if_icmp .ge 214, 3, 272, 0), none, none, some (.aload_n 0, 1, 0, 0), some (.aload_n 0, 1, 0, 0), some (.getfield 40, 3, 224, 10), none, none, some (.iload 4, 2, 0, 0), none, some (.iaload, 1, 0, 0), some (.invokevirtual 236, 3, 155, 1), none, none, some (.istore 5, 2, 0, 0), none, some (.iload 5, 2, 0, 0), none, some (.iconst 1, 1, 0, 0), some (.if_icmp .ne 146, 3, 223, 0), none, none, some (.aload_n 0, 1, 0, 0), some (.getfield 64, 3, 233, 10), none, none, some (.aload_n 0, 1, 0, 0), some (.getfield 158, 3, 17, 10), none, none, some (.dup2, 1, 0, 0), some (.iaload, 1, 0, 0), some (.iconst 1, 1, 0, 0), some (.iadd, 1, 0, 0), some (.iastore, 1, 0, 0), some (.iload_n 2, 1, 0, 0), some (.ifCond .ne 23, 3, 117, 0), none, none, some (.aload_n 0, 1, 0, 0), some (.getfield 164, 3, 19, 10), none, none, some (.iconst 1, 1, 0, 0), some (.if_icmp .ne 15, 3, 117, 0), none, none, some (.aload_n 0, 1, 0, 0), some (.getfield 49, 3, 228, 10), none, none, some (.aload_n 0, 1, 0, 0), some (.getfield 158, 3, 17, 10), none, none, some (.baload, 1, 0, 0), some (.ifCond .eq 20, 3, 134, 0), none, none, some (.iload_n 2, 1, 0, 0), some (.iconst 4, 1, 0, 0), some (.if_icmp .ne 17, 3, 136, 0), none, none, some (.aload_n 0, 1, 0, 0), some (.getfield 55, 3, 230, 10), none, none, some (.aload_n 0, 1, 0, 0), some (.getfield 158, 3, 17, 10), none, none, some (.baload, 1, 0, 0), some (.ifCond .eq 5, 3, 136, 0), none, none, some (.iconst 0, 1, 0, 0), some (.ireturn, 1, 0, 1), some (.aload_n 0, 1, 0, 0), some (.getfield 164, 3, 19, 10), none, none, some (.ifCond .ne 49, 3, 189, 0), none, none, some (.aload_n 0, 1, 0, 0), some (.getfield 49, 3, 228, 10), none, none, some (.aload_n 0, 1, 0, 0), some (.getfield 158, 3, 17, 10), none, none, some (.iconst 1, 1, 0, 0), some (.bastore, 1, 0, 0), some (.aload_n 0, 1, 0, 0), some (.getfield 52, 3, 229, 10), none, none, some (.aload_n 0, 1, 0, 0), some (.getfield 158, 3, 17, 10), none, none, some (.iconst 1, 1, 0, 0), some (.bastore, 1, 0, 0), some (.aload_n 0, 1, 0, 0), some (.getfield 58, 3, 231, 10), none, none, some (.aload_n 0, 1, 0, 0), some (.getfield 158, 3, 17, 10), none, none, some (.aload_n 0, 1, 0, 0), some (.getfield 161, 3, 18, 10), none, none, some (.iastore, 1, 0, 0), some (.aload_n 0, 1, 0, 0), some (.getfield 61, 3, 232, 10), none, none, some (.aload_n 0, 1, 0, 0), some (.getfield 158, 3, 17, 10), none, none, some (.aload_n 0, 1, 0, 0), some (.getfield 167, 3, 20, 10), none, none, some (.iastore, 1, 0, 0), some (.aload_n 0, 1, 0, 0), some (.getfield 52, 3, 229, 10), none, none, some (.aload_n 0, 1, 0, 0), some (.getfield 158, 3, 17, 10), none, none, some (.aload_n 0, 1, 0, 0), some (.getfield 52, 3, 229, 10), none, none, some (.aload_n 0, 1, 0, 0), some (.getfield 158, 3, 17, 10), none, none, some (.baload, 1, 0, 0), some (.ifCond .eq 15, 3, 221, 0), none, none, some (.aload_n 0, 1, 0, 0), some (.getfield 164, 3, 19, 10), none, none, some (.iconst 2, 1, 0, 0), some (.if_icmp .eq 7, 3, 221, 0), none, none, some (.iconst 1, 1, 0, 0), some (.goto 4, 3, 222, 0), none, none, some (.iconst 0, 1, 0, 0), some (.bastore, 1, 0, 0), some (.aload_n 0, 1, 0, 0), some (.getfield 55, 3, 230, 10), none, none, some (.aload_n 0, 1, 0, 0), some (.getfield 158, 3, 17, 10), none, none, some (.aload_n 0, 1, 0, 0), some (.getfield 55, 3, 230, 10), none, none, some (.aload_n 0, 1, 0, 0), some (.getfield 158, 3, 17, 10), none, none, some (.baload, 1, 0, 0), some (.ifCond .ne 9, 3, 249, 0), none, none, some (.iload 5, 2, 0, 0), none, some (.iconst 2, 1, 0, 0), some (.if_icmp .ne 7, 3, 253, 0), none, none, some (.iconst 1, 1, 0, 0), some (.goto 4, 3, 254, 0), none, none, some (.iconst 0, 1, 0, 0), some (.bastore, 1, 0, 0), some (.aload_n 0, 1, 0, 0), some (.iload_n 2, 1, 0, 0), some (.iload_n 3, 1, 0, 0), some (.invokevirtual 239, 3, 156, 2), none, none, some (.ifCond .ne 5, 3, 266, 0), none, none, some (.iconst 0, 1, 0, 0), some (.ireturn, 1, 0, 1), some (.iinc 4 1, 3, 0, 0), none, none, some (.goto (-214), 3, 55, 0), none, none, some (.iconst 1, 1, 0, 0), some (.ireturn, 1, 0, 1)]
def tb_X10_next : List (Option m_E) := [some (.iload_n 1, 1, 0, 0), some (.iconst 1, 1, 0, 0), some (.isub, 1, 0, 0), some (.istore_n 2, 1, 0, 0), some (.iload_n 2, 1, 0, 0), some (.ifCond .lt 33, 3, 38, 0), none, none, some (.aload_n 0, 1, 0, 0), some (.getfield 40, 3, 224, 10), none, none, some (.iload_n 2, 1, 0, 0), some (.iaload, 1, 0, 0), some (.aload_n 0, 1, 0, 0), some (.getfield 9, 3, 201, 10), none, none, some (.iconst 5, 1, 0, 0), some (.iaload, 1, 0, 0), some (.iconst 1, 1, 0, 0), some (.isub, 1, 0, 0), some (.if_icmp .ne 16, 3, 38, 0), none, none, some (.aload_n 0, 1, 0, 0), some (.getfield 40, 3, 224, 10), none, none, some (.iload_n 2, 1, 0, 0), some (.iconst 0, 1, 0, 0), some (.iastore, 1, 0, 0), some (.iinc 2 (-1), 3, 0, 0), none, none, some (.goto (-31), 3, 4, 0), none, none, some (.iload_n 2, 1, 0, 0), some (.ifCond .lt 13, 3, 52, 0), none, none, some (.aload_n 0, 1, 0, 0), some (.getfield 40, 3, 224, 10), none, none, some (.iload_n 2, 1, 0, 0), some (.dup2, 1, 0, 0), some (.iaload, 1, 0, 0), some (.iconst 1, 1, 0, 0), some (.iadd, 1, 0, 0), some (.iastore, 1, 0, 0), some (.iload_n 2, 1, 0, 0), some (.ifCond .lt 7, 3, 60, 0), none, none, some (.iconst 1, 1, 0, 0), some (.goto 4, 3, 61, 0), none, none, some (.iconst 0, 1, 0, 0), some (.ireturn, 1, 0, 1)]
def tb_X10_breach : List (Option m_E) := [some (.iconst 1, 1, 0, 0), some (.istore 4, 2, 0, 0), none, some (.iload 4, 2, 0, 0), none, some (.iload_n 3, 1, 0, 0), some (.if_icmp .gt 74, 3, 80, 0), none, none, some (.aload_n 0, 1, 0, 0), some (.getfield 9, 3, 201, 10), none, none, some (.iconst 5, 1, 0, 0), some (.iaload, 1, 0, 0), some (.ifCond .le 65, 3, 80, 0), none, none, some (.iconst 0, 1, 0, 0), some (.istore 5, 2, 0, 0), none, some (.iload 5, 2, 0, 0), none, some (.iconst 3, 1, 0, 0), some (.if_icmp .ge 17, 3, 41, 0), none, none, some (.aload_n 0, 1, 0, 0), some (.getfield 40, 3, 224, 10), none, none, some (.iload 5, 2, 0, 0), none, some (.iconst 0, 1, 0, 0), some (.iastore, 1, 0, 0), some (.iinc 5 1, 3, 0, 0), none, none, some (.goto (-17), 3, 21, 0), none, none, some (.iconst 1, 1, 0, 0), some (.istore 5, 2, 0, 0), none, some (.iload 5, 2, 0, 0), none, some (.ifCond .eq 28, 3, 74, 0), none, none, some (.aload_n 0, 1, 0, 0), some (.iload 4, 2, 0, 0), none, some (.iload_n 1, 1, 0, 0), some (.iload_n 2, 1, 0, 0), some (.invokevirtual 243, 3, 157, 3), none, none, some (.ifCond .ne 6, 3, 63, 0), none, none, some (.iload 4, 2, 0, 0), none, some (.ireturn, 1, 0, 0), some (.aload_n 0, 1, 0, 0), some (.iload 4, 2, 0, 0), none, some (.invokevirtual 246, 3, 158, 1), none, none, some (.istore 5, 2, 0, 0), none, some (.goto (-27), 3, 44, 0), none, none, some (.iinc 4 1, 3, 0, 0), none, none, some (.goto (-74), 3, 3, 0), none, none, some (.iconst 0, 1, 0, 0), some (.ireturn, 1, 0, 0)]
def tb_X10_shown : List (Option m_E) := [some (.aload_n 0, 1, 0, 0), some (.iload_n 1, 1, 0, 0), some (.invokevirtual 148, 3, 106, 1), none, none, some (.ifCond .eq 19, 3, 24, 0), none, none, some (.iload_n 2, 1, 0, 0), some (.iconst 0, 1, 0, 0), some (.iconst 4, 1, 0, 0), some (.invokestatic 83, 3, 105, 3), none, none, some (.ifCond .eq 10, 3, 24, 0), none, none, some (.iload 5, 2, 0, 0), none, some (.bipush (-2), 2, 0, 0), none, some (.if_icmp .ge 5, 3, 26, 0), none, none, some (.iconst (-1), 1, 0, 0), some (.ireturn, 1, 0, 0), some (.iload_n 3, 1, 0, 0), some (.iconst 0, 1, 0, 0), some (.bipush 99, 2, 0, 0), none, some (.invokestatic 83, 3, 105, 3), none, none, some (.ifCond .eq 13, 3, 46, 0), none, none, some (.iload 4, 2, 0, 0), none, some (.iconst 1, 1, 0, 0), some (.iconst 3, 1, 0, 0), some (.invokestatic 83, 3, 105, 3), none, none, some (.ifCond .ne 6, 3, 49, 0), none, none, some (.bipush (-2), 2, 0, 0), none, some (.ireturn, 1, 0, 0), some (.aload_n 0, 1, 0, 0), some (.iconst 1, 1, 0, 0), some (.putfield 230, 3, 27, 10), none, none, some (.aload_n 0, 1, 0, 0), some (.getfield 46, 3, 226, 10), none, none, some (.iconst 0, 1, 0, 0), some (.iload_n 1, 1, 0, 0), some (.iastore, 1, 0, 0), some (.aload_n 0, 1, 0, 0), some (.iload_n 2, 1, 0, 0), some (.iload_n 3, 1, 0, 0), some (.iload 4, 2, 0, 0), none, some (.invokevirtual 249, 3, 159, 3), none, none, some (.istore 6, 2, 0, 0), none, some (.iload 5, 2, 0, 0), none, some (.ifCond .ge 26, 3, 99, 0), none, none, some (.iload 5, 2, 0, 0), none, some (.bipush (-2), 2, 0, 0), none, some (.if_icmp .ne 8, 3, 88, 0), none, none, some (.iload 6, 2, 0, 0), none, some (.goto 13, 3, 98, 0), none, none, some (.iload 6, 2, 0, 0), none, some (.ifCond .ne 7, 3, 97, 0), none, none, some (.iconst 1, 1, 0, 0), some (.goto 4, 3, 98, 0), none, none, some (.iconst 0, 1, 0, 0), some (.ireturn, 1, 0, 0), some (.iload 5, 2, 0, 0), none, some (.iload 6, 2, 0, 0), none, some (.if_icmp .ge 13, 3, 116, 0), none, none, some (.aload_n 0, 1, 0, 0), some (.getfield 40, 3, 224, 10), none, none, some (.iload 5, 2, 0, 0), none, some (.iaload, 1, 0, 0), some (.goto 4, 3, 117, 0), none, none, some (.iconst (-1), 1, 0, 0), some (.ireturn, 1, 0, 0)]
def tb_X10_lastBy : List (Option m_E) := [some (.aload_n 0, 1, 0, 0), some (.iconst 1, 1, 0, 0), some (.putfield 230, 3, 27, 10), none, none, some (.aload_n 0, 1, 0, 0), some (.getfield 46, 3, 226, 10), none, none, some (.iconst 0, 1, 0, 0), some (.iload_n 1, 1, 0, 0), some (.iastore, 1, 0, 0), some (.aload_n 0, 1, 0, 0), some (.invokevirtual 233, 3, 154, 0), none, none, some (.iconst 1, 1, 0, 0), some (.istore_n 3, 1, 0, 0), some (.iconst 0, 1, 0, 0), some (.istore 4, 2, 0, 0), none, some (.iload 4, 2, 0, 0), none, some (.iload_n 2, 1, 0, 0), some (.if_icmp .ge 21, 3, 45, 0), none, none, some (.aload_n 0, 1, 0, 0), some (.aload_n 0, 1, 0, 0), some (.getfield 40, 3, 224, 10), none, none, some (.iload 4, 2, 0, 0), none, some (.iaload, 1, 0, 0), some (.invokevirtual 236, 3, 155, 1), none, none, some (.istore_n 3, 1, 0, 0), some (.iinc 4 1, 3, 0, 0), none, none, some (.goto (-21), 3, 21, 0), none, none, some (.iload_n 3, 1, 0, 0), some (.ireturn, 1, 0, 0)]
def tb_X10_ways : List (Option m_E) := [some (.aload_n 0, 1, 0, 0), some (.iload_n 1, 1, 0, 0), some (.invokevirtual 148, 3, 106, 1), none, none, some (.ifCond .eq 17, 3, 22, 0), none, none, some (.aload_n 0, 1, 0, 0), some (.iload_n 2, 1, 0, 0), some (.invokevirtual 148, 3, 106, 1), none, none, some (.ifCond .eq 9, 3, 22, 0), none, none, some (.iload 4, 2, 0, 0), none, some (.iconst (-1), 1, 0, 0), some (.if_icmp .ge 5, 3, 24, 0), none, none, some (.iconst (-1), 1, 0, 0), some (.ireturn, 1, 0, 0), some (.iload_n 3, 1, 0, 0), some (.iconst 1, 1, 0, 0), some (.iconst 3, 1, 0, 0), some (.invokestatic 83, 3, 105, 3), none, none, some (.ifCond .ne 6, 3, 36, 0), none, none, some (.bipush (-2), 2, 0, 0), none, some (.ireturn, 1, 0, 0), some (.iconst 1, 1, 0, 0), some (.istore 5, 2, 0, 0), none, some (.iload 5, 2, 0, 0), none, some (.iload_n 3, 1, 0, 0), some (.if_icmp .gt 107, 3, 149, 0), none, none, some (.aload_n 0, 1, 0, 0), some (.getfield 9, 3, 201, 10), none, none, some (.iconst 5, 1, 0, 0), some (.iaload, 1, 0, 0), some (.ifCond .le 98, 3, 149, 0), none, none, some (.iconst 0, 1, 0, 0), some (.istore 6, 2, 0, 0), none, some (.iload 6, 2, 0, 0), none, some (.iconst 3, 1, 0, 0), some (.if_icmp .ge 17, 3, 77, 0), none, none, some (.aload_n 0, 1, 0, 0), some (.getfield 40, 3, 224, 10), none, none, some (.iload 6, 2, 0, 0), none, some (.iconst 0, 1, 0, 0), some (.iastore, 1, 0, 0), some (.iinc 6 1, 3, 0, 0), none, none, some (.goto (-17), 3, 57, 0), none, none, some (.iconst 1, 1, 0, 0), some (.istore 6, 2, 0, 0), none, some (.iload 6, 2, 0, 0), none, some (.ifCond .eq 61, 3, 143, 0), none, none, some (.aload_n 0, 1, 0, 0), some (.iload_n 1, 1, 0, 0), some (.iload 5, 2, 0, 0), none, some (.invokevirtual 253, 3, 161, 2), none, none, some (.aload_n 0, 1, 0, 0), some (.iload_n 2, 1, 0, 0), some (.iload 5, 2, 0, 0), none, some (.invokevirtual 253, 3, 161, 2), none, none, some (.if_icmp .eq 33, 3, 132, 0), none, none, some (.iload 4, 2, 0, 0), none, some (.iconst (-1), 1, 0, 0), some (.if_icmp .ne 8, 3, 113, 0), none, none, some (.iload 5, 2, 0, 0), none, some (.goto 21, 3, 131, 0), none, none, some (.iload 4, 2, 0, 0), none, some (.iload 5, 2, 0, 0), none, some (.if_icmp .ge 13, 3, 130, 0), none, none, some (.aload_n 0, 1, 0, 0), some (.getfield 40, 3, 224, 10), none, none, some (.iload 4, 2, 0, 0), none, some (.iaload, 1, 0, 0), some (.goto 4, 3, 131, 0), none, none, some (.iconst (-1), 1, 0, 0), some (.ireturn, 1, 0, 0), some (.aload_n 0, 1, 0, 0), some (.iload 5, 2, 0, 0), none, some (.invokevirtual 246, 3, 158, 1), none, none, some (.istore 6, 2, 0, 0), none, some (.goto (-60), 3, 80, 0), none, none, some (.iinc 5 1, 3, 0, 0), none, none, some (.goto (-107), 3, 39, 0), none, none, some (.iload 4, 2, 0, 0), none, some (.iconst (-1), 1, 0, 0), some (.if_icmp .ne 7, 3, 159, 0), none, none, some (.iconst 0, 1, 0, 0), some (.goto 4, 3, 160, 0), none, none, some (.iconst (-1), 1, 0, 0), some (.ireturn, 1, 0, 0)]
def tb_X10_arranges : List (Option m_E) := [some (.iload_n 1, 1, 0, 0), some (.aload_n 0, 1, 0, 0), some (.getfield 256, 3, 37, 10), none, none, some (.if_icmp .ne 114, 3, 119, 0), none, none, some (.aload_n 0, 1, 0, 0), some (.aload_n 0, 1, 0, 0), some (.getfield 256, 3, 37, 10), none, none, some (.putfield 230, 3, 27, 10), none, none, some (.iconst 0, 1, 0, 0), some (.istore 6, 2, 0, 0), none, some (.iload 6, 2, 0, 0), none, some (.aload_n 0, 1, 0, 0), some (.getfield 256, 3, 37, 10), none, none, some (.if_icmp .ge 32, 3, 57, 0), none, none, some (.aload_n 0, 1, 0, 0), some (.getfield 46, 3, 226, 10), none, none, some (.iload 6, 2, 0, 0), none, some (.aload_n 0, 1, 0, 0), some (.getfield 9, 3, 201, 10), none, none, some (.sipush 178, 3, 0, 0), none, none, some (.aload_n 0, 1, 0, 0), some (.getfield 70, 3, 235, 10), none, none, some (.iload 6, 2, 0, 0), none, some (.iaload, 1, 0, 0), some (.iadd, 1, 0, 0), some (.iaload, 1, 0, 0), some (.iastore, 1, 0, 0), some (.iinc 6 1, 3, 0, 0), none, none, some (.goto (-35), 3, 19, 0), none, none, some (.aload_n 0, 1, 0, 0), some (.iload_n 3, 1, 0, 0), some (.iload 4, 2, 0, 0), none, some (.iload 5, 2, 0, 0), none, some (.invokevirtual 249, 3, 159, 3), none, none, some (.ifCond .ne 52, 3, 118, 0), none, none, some (.iconst 0, 1, 0, 0), some (.istore 6, 2, 0, 0), none, some (.iload 6, 2, 0, 0), none, some (.aload_n 0, 1, 0, 0), some (.getfield 256, 3, 37, 10), none, none, some (.if_icmp .ge 30, 3, 108, 0), none, none, some (.aload_n 0, 1, 0, 0), some (.getfield 259, 3, 38, 10), none, none, some (.ifCond .ne 23, 3, 108, 0), none, none, some (.aload_n 0, 1, 0, 0), some (.getfield 73, 3, 236, 10), none, none, some (.iload 6, 2, 0, 0), none, some (.aload_n 0, 1, 0, 0), some (.getfield 70, 3, 235, 10), none, none, some (.iload 6, 2, 0, 0), none, some (.iaload, 1, 0, 0), some (.iastore, 1, 0, 0), some (.iinc 6 1, 3, 0, 0), none, none, some (.goto (-33), 3, 72, 0), none, none, some (.aload_n 0, 1, 0, 0), some (.dup, 1, 0, 0), some (.getfield 259, 3, 38, 10), none, none, some (.iconst 1, 1, 0, 0), some (.iadd, 1, 0, 0), some (.putfield 259, 3, 38, 10), none, none, some (.return_, 1, 0, 0), some (.iconst 0, 1, 0, 0), some (.istore 6, 2, 0, 0), none, some (.iload 6, 2, 0, 0), none, some (.aload_n 0, 1, 0, 0), some (.getfield 256, 3, 37, 10), none, none, some (.if_icmp .ge 49, 3, 177, 0), none, none, some (.iload_n 2, 1, 0, 0), some (.iload 6, 2, 0, 0), none, some (.ishr, 1, 0, 0), some (.iconst 1, 1, 0, 0), some (.iand, 1, 0, 0), some (.ifCond .ne 34, 3, 171, 0), none, none, some (.aload_n 0, 1, 0, 0), some (.getfield 70, 3, 235, 10), none, none, some (.iload_n 1, 1, 0, 0), some (.aload_n 0, 1, 0, 0), some (.getfield 67, 3, 234, 10), none, none, some (.iload 6, 2, 0, 0), none, some (.iaload, 1, 0, 0), some (.iastore, 1, 0, 0), some (.aload_n 0, 1, 0, 0), some (.iload_n 1, 1, 0, 0), some (.iconst 1, 1, 0, 0), some (.iadd, 1, 0, 0), some (.iload_n 2, 1, 0, 0), some (.iconst 1, 1, 0, 0), some (.iload 6, 2, 0, 0), none, some (.ishl, 1, 0, 0), some (.ior, 1, 0, 0), some (.iload_n 3, 1, 0, 0), some (.iload 4, 2, 0, 0), none, some (.iload 5, 2, 0, 0), none, some (.invokevirtual 262, 3, 163, 5), none, none, some (.iinc 6 1, 3, 0, 0), none, none, some (.goto (-52), 3, 122, 0), none, none, some (.return_, 1, 0, 0)]
def tb_X10_orders : List (Option m_E) := [some (.iload_n 2, 1, 0, 0), some (.iconst 0, 1, 0, 0), some (.iconst 4, 1, 0, 0), some (.invokestatic 83, 3, 105, 3), none, none, some (.ifCond .eq 9, 3, 15, 0), none, none, some (.iload 5, 2, 0, 0), none, some (.iconst (-1), 1, 0, 0), some (.if_icmp .ge 5, 3, 17, 0), none, none, some (.iconst (-1), 1, 0, 0), some (.ireturn, 1, 0, 0), some (.iload_n 1, 1, 0, 0), some (.iconst 0, 1, 0, 0), some (.iconst 1, 1, 0, 0), some (.aload_n 0, 1, 0, 0), some (.getfield 9, 3, 201, 10), none, none, some (.iconst 1, 1, 0, 0), some (.iaload, 1, 0, 0), some (.ishl, 1, 0, 0), some (.iconst 1, 1, 0, 0), some (.isub, 1, 0, 0), some (.invokestatic 83, 3, 105, 3), none, none, some (.ifCond .eq 35, 3, 67, 0), none, none, some (.iload_n 1, 1, 0, 0), some (.invokestatic 227, 3, 110, 1), none, none, some (.iconst 2, 1, 0, 0), some (.iconst 4, 1, 0, 0), some (.invokestatic 83, 3, 105, 3), none, none, some (.ifCond .eq 23, 3, 67, 0), none, none, some (.iload_n 3, 1, 0, 0), some (.iconst 0, 1, 0, 0), some (.bipush 99, 2, 0, 0), none, some (.invokestatic 83, 3, 105, 3), none, none, some (.ifCond .eq 13, 3, 67, 0), none, none, some (.iload 4, 2, 0, 0), none, some (.iconst 1, 1, 0, 0), some (.iconst 3, 1, 0, 0), some (.invokestatic 83, 3, 105, 3), none, none, some (.ifCond .ne 6, 3, 70, 0), none, none, some (.bipush (-2), 2, 0, 0), none, some (.ireturn, 1, 0, 0), some (.aload_n 0, 1, 0, 0), some (.iconst 0, 1, 0, 0), some (.putfield 256, 3, 37, 10), none, none, some (.iconst 0, 1, 0, 0), some (.istore 6, 2, 0, 0), none, some (.iload 6, 2, 0, 0), none, some (.aload_n 0, 1, 0, 0), some (.getfield 9, 3, 201, 10), none, none, some (.iconst 1, 1, 0, 0), some (.iaload, 1, 0, 0), some (.if_icmp .ge 40, 3, 126, 0), none, none, some (.iload_n 1, 1, 0, 0), some (.iload 6, 2, 0, 0), none, some (.ishr, 1, 0, 0), some (.iconst 1, 1, 0, 0), some (.iand, 1, 0, 0), some (.iconst 1, 1, 0, 0), some (.if_icmp .ne 24, 3, 120, 0), none, none, some (.aload_n 0, 1, 0, 0), some (.getfield 67, 3, 234, 10), none, none, some (.aload_n 0, 1, 0, 0), some (.getfield 256, 3, 37, 10), none, none, some (.iload 6, 2, 0, 0), none, some (.iastore, 1, 0, 0), some (.aload_n 0, 1, 0, 0), some (.dup, 1, 0, 0), some (.getfield 256, 3, 37, 10), none, none, some (.iconst 1, 1, 0, 0), some (.iadd, 1, 0, 0), some (.putfield 256, 3, 37, 10), none, none, some (.iinc 6 1, 3, 0, 0), none, none, some (.goto (-45), 3, 78, 0), none, none, some (.aload_n 0, 1, 0, 0), some (.iconst 0, 1, 0, 0), some (.putfield 259, 3, 38, 10), none, none, some (.aload_n 0, 1, 0, 0), some (.iconst 0, 1, 0, 0), some (.iconst 0, 1, 0, 0), some (.iload_n 2, 1, 0, 0), some (.iload_n 3, 1, 0, 0), some (.iload 4, 2, 0, 0), none, some (.invokevirtual 262, 3, 163, 5), none, none, some (.iload 5, 2, 0, 0), none, some (.iconst (-1), 1, 0, 0), some (.if_icmp .ne 8, 3, 152, 0), none, none, some (.aload_n 0, 1, 0, 0), some (.getfield 259, 3, 38, 10), none, none, some (.ireturn, 1, 0, 0), some (.aload_n 0, 1, 0, 0), some (.getfield 259, 3, 38, 10), none, none, some (.ifCond .le 22, 3, 178, 0), none, none, some (.iload 5, 2, 0, 0), none, some (.aload_n 0, 1, 0, 0), some (.getfield 256, 3, 37, 10), none, none, some (.if_icmp .ge 13, 3, 178, 0), none, none, some (.aload_n 0, 1, 0, 0), some (.getfield 73, 3, 236, 10), none, none, some (.iload 5, 2, 0, 0), none, some (.iaload, 1, 0, 0), some (.goto 4, 3, 179, 0), none, none, some (.iconst (-1), 1, 0, 0), some (.ireturn, 1, 0, 0)]
def tb_X10_runs : List (Option m_E) := [some (.aload_n 0, 1, 0, 0), some (.getfield 266, 3, 40, 10), none, none, some (.bipush 20, 2, 0, 0), none, some (.if_icmp .ge 13, 3, 19, 0), none, none, some (.aload_n 0, 1, 0, 0), some (.getfield 76, 3, 239, 10), none, none, some (.aload_n 0, 1, 0, 0), some (.getfield 266, 3, 40, 10), none, none, some (.iload_n 1, 1, 0, 0), some (.iastore, 1, 0, 0), some (.aload_n 0, 1, 0, 0), some (.dup, 1, 0, 0), some (.getfield 266, 3, 40, 10), none, none, some (.iconst 1, 1, 0, 0), some (.iadd, 1, 0, 0), some (.putfield 266, 3, 40, 10), none, none, some (.return_, 1, 0, 0)]
def tb_X10_isUnder : List (Option m_E) := [some (.iload_n 1, 1, 0, 0), some (.ifCond .eq 28, 3, 29, 0), none, none, some (.iload_n 1, 1, 0, 0), some (.iload_n 0, 1, 0, 0), some (.if_icmp .eq 23, 3, 29, 0), none, none, some (.iload_n 1, 1, 0, 0), some (.iconst 1, 1, 0, 0), some (.if_icmp .ne 8, 3, 19, 0), none, none, some (.iload_n 0, 1, 0, 0), some (.iconst 4, 1, 0, 0), some (.if_icmp .eq 13, 3, 29, 0), none, none, some (.iload_n 1, 1, 0, 0), some (.iconst 3, 1, 0, 0), some (.if_icmp .ne 12, 3, 33, 0), none, none, some (.iload_n 0, 1, 0, 0), some (.iconst 5, 1, 0, 0), some (.if_icmp .ne 7, 3, 33, 0), none, none, some (.iconst 1, 1, 0, 0), some (.goto 4, 3, 34, 0), none, none, some (.iconst 0, 1, 0, 0), some (.ireturn, 1, 0, 1)]
def tb_X10_plainKeeps : List (Option m_E) := [some (.aload_n 0, 1, 0, 0), some (.iconst 1, 1, 0, 0), some (.invokevirtual 269, 3, 165, 1), none, none, some (.iload_n 1, 1, 0, 0), some (.aload_n 0, 1, 0, 0), some (.getfield 272, 3, 42, 10), none, none, some (.iadd, 1, 0, 0), some (.ireturn, 1, 0, 0)]
def tb_X10_keepsActs : List (Option m_E) := [some (.aload_n 0, 1, 0, 0), some (.getfield 275, 3, 41, 10), none, none, some (.iconst 2, 1, 0, 0), some (.if_icmp .ne 16, 3, 21, 0), none, none, some (.aload_n 0, 1, 0, 0), some (.bipush 21, 2, 0, 0), none, some (.invokevirtual 269, 3, 165, 1), none, none, some (.aload_n 0, 1, 0, 0), some (.iload_n 1, 1, 0, 0), some (.invokevirtual 278, 3, 167, 1), none, none, some (.ineg, 1, 0, 0), some (.ireturn, 1, 0, 0), some (.aload_n 0, 1, 0, 0), some (.getfield 275, 3, 41, 10), none, none, some (.bipush 6, 2, 0, 0), none, some (.if_icmp .ne 20, 3, 47, 0), none, none, some (.aload_n 0, 1, 0, 0), some (.bipush 61, 2, 0, 0), none, some (.invokevirtual 269, 3, 165, 1), none, none, some (.aload_n 0, 1, 0, 0), some (.iload_n 1, 1, 0, 0), some (.iconst 1, 1, 0, 0), some (.iadd, 1, 0, 0), some (.invokevirtual 278, 3, 167, 1), none, none, some (.bipush 9, 2, 0, 0), none, some (.ixor, 1, 0, 0), some (.ireturn, 1, 0, 0), some (.aload_n 0, 1, 0, 0), some (.iload_n 1, 1, 0, 0), some (.invokevirtual 278, 3, 167, 1), none, none, some (.ireturn, 1, 0, 0)]
def tb_X10_plainWorks : List (Option m_E) := [some (.aload_n 0, 1, 0, 0), some (.iconst 2, 1, 0, 0), some (.invokevirtual 269, 3, 165, 1), none, none, some (.aload_n 0, 1, 0, 0), some (.iload_n 1, 1, 0, 0), some (.invokevirtual 281, 3, 168, 1), none, none, some (.aload_n 0, 1, 0, 0), some (.getfield 284, 3, 43, 10), none, none, some (.isub, 1, 0, 0), some (.ireturn, 1, 0, 0)]
def tb_X10_worksActs : List (Option m_E) := [some (.aload_n 0, 1, 0, 0), some (.getfield 275, 3, 41, 10), none, none, some (.iconst 5, 1, 0, 0), some (.if_icmp .ne 20, 3, 25, 0), none, none, some (.aload_n 0, 1, 0, 0), some (.bipush 51, 2, 0, 0), none, some (.invokevirtual 269, 3, 165, 1), none, none, some (.aload_n 0, 1, 0, 0), some (.iload_n 1, 1, 0, 0), some (.invokevirtual 287, 3, 169, 1), none, none, some (.aload_n 0, 1, 0, 0), some (.getfield 272, 3, 42, 10), none, none, some (.iadd, 1, 0, 0), some (.ireturn, 1, 0, 0), some (.aload_n 0, 1, 0, 0), some (.getfield 275, 3, 41, 10), none, none, some (.iconst 1, 1, 0, 0), some (.invokestatic 290, 3, 166, 2), none, none, some (.ifCond .eq 17, 3, 50, 0), none, none, some (.aload_n 0, 1, 0, 0), some (.bipush 11, 2, 0, 0), none, some (.invokevirtual 269, 3, 165, 1), none, none, some (.aload_n 0, 1, 0, 0), some (.iload_n 1, 1, 0, 0), some (.iconst 3, 1, 0, 0), some (.imul, 1, 0, 0), some (.invokevirtual 287, 3, 169, 1), none, none, some (.ireturn, 1, 0, 0), some (.aload_n 0, 1, 0, 0), some (.iload_n 1, 1, 0, 0), some (.invokevirtual 287, 3, 169, 1), none, none, some (.ireturn, 1, 0, 0)]
def tb_X10_plainLeads : List (Option m_E) := [some (.aload_n 0, 1, 0, 0), some (.iconst 3, 1, 0, 0), some (.invokevirtual 269, 3, 165, 1), none, none, some (.aload_n 0, 1, 0, 0), some (.iload_n 1, 1, 0, 0), some (.invokevirtual 293, 3, 170, 1), none, none, some (.iconst 2, 1, 0, 0), some (.imul, 1, 0, 0), some (.ireturn, 1, 0, 0)]
def tb_X10_leadsActs : List (Option m_E) := [some (.aload_n 0, 1, 0, 0), some (.getfield 275, 3, 41, 10), none, none, some (.iconst 4, 1, 0, 0), some (.if_icmp .ne 25, 3, 30, 0), none, none, some (.aload_n 0, 1, 0, 0), some (.bipush 41, 2, 0, 0), none, some (.invokevirtual 269, 3, 165, 1), none, none, some (.aload_n 0, 1, 0, 0), some (.iload_n 1, 1, 0, 0), some (.iconst 1, 1, 0, 0), some (.isub, 1, 0, 0), some (.invokevirtual 296, 3, 171, 1), none, none, some (.istore_n 2, 1, 0, 0), some (.iload_n 2, 1, 0, 0), some (.aload_n 0, 1, 0, 0), some (.iconst 2, 1, 0, 0), some (.invokevirtual 281, 3, 168, 1), none, none, some (.iadd, 1, 0, 0), some (.ireturn, 1, 0, 0), some (.aload_n 0, 1, 0, 0), some (.getfield 275, 3, 41, 10), none, none, some (.iconst 3, 1, 0, 0), some (.invokestatic 290, 3, 166, 2), none, none, some (.ifCond .eq 17, 3, 55, 0), none, none, some (.aload_n 0, 1, 0, 0), some (.bipush 31, 2, 0, 0), none, some (.invokevirtual 269, 3, 165, 1), none, none, some (.aload_n 0, 1, 0, 0), some (.iload_n 1, 1, 0, 0), some (.invokevirtual 296, 3, 171, 1), none, none, some (.iconst 5, 1, 0, 0), some (.ixor, 1, 0, 0), some (.ireturn, 1, 0, 0), some (.aload_n 0, 1, 0, 0), some (.iload_n 1, 1, 0, 0), some (.invokevirtual 296, 3, 171, 1), none, none, some (.ireturn, 1, 0, 0)]
def tb_X10_act : List (Option m_E) := [some (.aload_n 0, 1, 0, 0), some (.iconst 0, 1, 0, 0), some (.putfield 266, 3, 40, 10), none, none, some (.aload_n 0, 1, 0, 0), some (.iload_n 1, 1, 0, 0), some (.invokevirtual 200, 3, 107, 1), none, none, some (.ifCond .eq 12, 3, 22, 0), none, none, some (.iload_n 2, 1, 0, 0), some (.iconst 0, 1, 0, 0), some (.iconst 2, 1, 0, 0), some (.invokestatic 83, 3, 105, 3), none, none, some (.ifCond .ne 5, 3, 24, 0), none, none, some (.iconst 0, 1, 0, 0), some (.ireturn, 1, 0, 0), some (.aload_n 0, 1, 0, 0), some (.aload_n 0, 1, 0, 0), some (.getfield 9, 3, 201, 10), none, none, some (.sipush 170, 3, 0, 0), none, none, some (.iload_n 1, 1, 0, 0), some (.iadd, 1, 0, 0), some (.iaload, 1, 0, 0), some (.putfield 275, 3, 41, 10), none, none, some (.aload_n 0, 1, 0, 0), some (.iload_n 1, 1, 0, 0), some (.putfield 272, 3, 42, 10), none, none, some (.aload_n 0, 1, 0, 0), some (.aload_n 0, 1, 0, 0), some (.getfield 24, 3, 206, 10), none, none, some (.aload_n 0, 1, 0, 0), some (.getfield 9, 3, 201, 10), none, none, some (.sipush 178, 3, 0, 0), none, none, some (.iload_n 1, 1, 0, 0), some (.iadd, 1, 0, 0), some (.iaload, 1, 0, 0), some (.iaload, 1, 0, 0), some (.putfield 284, 3, 43, 10), none, none, some (.iload_n 2, 1, 0, 0), some (.ifCond .ne 11, 3, 74, 0), none, none, some (.aload_n 0, 1, 0, 0), some (.iload_n 3, 1, 0, 0), some (.invokevirtual 281, 3, 168, 1), none, none, some (.goto 21, 3, 92, 0), none, none, some (.iload_n 2, 1, 0, 0), some (.iconst 1, 1, 0, 0), some (.if_icmp .ne 11, 3, 87, 0), none, none, some (.aload_n 0, 1, 0, 0), some (.iload_n 3, 1, 0, 0), some (.invokevirtual 293, 3, 170, 1), none, none, some (.goto 8, 3, 92, 0), none, none, some (.aload_n 0, 1, 0, 0), some (.iload_n 3, 1, 0, 0), some (.invokevirtual 299, 3, 172, 1), none, none, some (.ireturn, 1, 0, 0)]
def tb_X10_trace : List (Option m_E) := [some (.iload_n 1, 1, 0, 0), some (.iconst 0, 1, 0, 0), some (.aload_n 0, 1, 0, 0), some (.getfield 266, 3, 40, 10), none, none, some (.bipush 20, 2, 0, 0), none, some (.if_icmp .ge 10, 3, 18, 0), none, none, some (.aload_n 0, 1, 0, 0), some (.getfield 266, 3, 40, 10), none, none, some (.goto 5, 3, 20, 0), none, none, some (.bipush 20, 2, 0, 0), none, some (.iconst 1, 1, 0, 0), some (.isub, 1, 0, 0), some (.invokestatic 83, 3, 105, 3), none, none, some (.ifCond .eq 12, 3, 37, 0), none, none, some (.aload_n 0, 1, 0, 0), some (.getfield 76, 3, 239, 10), none, none, some (.iload_n 1, 1, 0, 0), some (.iaload, 1, 0, 0), some (.goto 4, 3, 38, 0), none, none, some (.iconst (-1), 1, 0, 0), some (.ireturn, 1, 0, 0)]
def tb_X10_as : List (Option m_E) := [some (.aload_n 0, 1, 0, 0), some (.iload_n 1, 1, 0, 0), some (.invokevirtual 200, 3, 107, 1), none, none, some (.ifCond .eq 13, 3, 18, 0), none, none, some (.iload_n 2, 1, 0, 0), some (.iconst 0, 1, 0, 0), some (.bipush 6, 2, 0, 0), none, some (.invokestatic 83, 3, 105, 3), none, none, some (.ifCond .ne 5, 3, 20, 0), none, none, some (.iconst (-1), 1, 0, 0), some (.ireturn, 1, 0, 0), some (.aload_n 0, 1, 0, 0), some (.getfield 9, 3, 201, 10), none, none, some (.sipush 170, 3, 0, 0), none, none, some (.iload_n 1, 1, 0, 0), some (.iadd, 1, 0, 0), some (.iaload, 1, 0, 0), some (.iload_n 2, 1, 0, 0), some (.invokestatic 290, 3, 166, 2), none, none, some (.ifCond .eq 16, 3, 50, 0), none, none, some (.aload_n 0, 1, 0, 0), some (.getfield 9, 3, 201, 10), none, none, some (.sipush 178, 3, 0, 0), none, none, some (.iload_n 1, 1, 0, 0), some (.iadd, 1, 0, 0), some (.iaload, 1, 0, 0), some (.goto 5, 3, 52, 0), none, none, some (.bipush (-6), 2, 0, 0), none, some (.ireturn, 1, 0, 0)]
def tb_X10_image : List (Option m_E) := [some (.iconst 0, 1, 0, 0), some (.istore_n 1, 1, 0, 0), some (.iload_n 1, 1, 0, 0), some (.sipush 1800, 3, 0, 0), none, none, some (.if_icmp .ge 21, 3, 27, 0), none, none, some (.aload_n 0, 1, 0, 0), some (.getfield 15, 3, 202, 10), none, none, some (.iload_n 1, 1, 0, 0), some (.aload_n 0, 1, 0, 0), some (.getfield 9, 3, 201, 10), none, none, some (.iload_n 1, 1, 0, 0), some (.iaload, 1, 0, 0), some (.iastore, 1, 0, 0), some (.iinc 1 1, 3, 0, 0), none, none, some (.goto (-22), 3, 2, 0), none, none, some (.aload_n 0, 1, 0, 0), some (.iconst 1, 1, 0, 0), some (.putfield 302, 3, 103, 10), none, none, some (.aload_n 0, 1, 0, 0), some (.getfield 9, 3, 201, 10), none, none, some (.iconst 1, 1, 0, 0), some (.iaload, 1, 0, 0), some (.ireturn, 1, 0, 0)]
def tb_X10_undo : List (Option m_E) := [some (.aload_n 0, 1, 0, 0), some (.getfield 302, 3, 103, 10), none, none, some (.ifCond .ne 6, 3, 10, 0), none, none, some (.bipush (-3), 2, 0, 0), none, some (.ireturn, 1, 0, 0), some (.iconst 0, 1, 0, 0), some (.istore_n 1, 1, 0, 0), some (.iload_n 1, 1, 0, 0), some (.sipush 1800, 3, 0, 0), none, none, some (.if_icmp .ge 21, 3, 37, 0), none, none, some (.aload_n 0, 1, 0, 0), some (.getfield 9, 3, 201, 10), none, none, some (.iload_n 1, 1, 0, 0), some (.aload_n 0, 1, 0, 0), some (.getfield 15, 3, 202, 10), none, none, some (.iload_n 1, 1, 0, 0), some (.iaload, 1, 0, 0), some (.iastore, 1, 0, 0), some (.iinc 1 1, 3, 0, 0), none, none, some (.goto (-22), 3, 12, 0), none, none, some (.aload_n 0, 1, 0, 0), some (.getfield 9, 3, 201, 10), none, none, some (.iconst 1, 1, 0, 0), some (.iaload, 1, 0, 0), some (.ireturn, 1, 0, 0)]
def tb_X10_count : List (Option m_E) := [some (.iload_n 1, 1, 0, 0), some (.tableswitch 102 0 7 #[47, 54, 61, 68, 75, 82, 89, 97], 47, 0, 0), none, none, none, none, none, none, none, none, none, none, none, none, none, none, none, none, none, none, none, none, none, none, none, none, none, none, none, none, none, none, none, none, none, none, none, none, none, none, none, none, none, none, none, none, none, none, some (.aload_n 0, 1, 0, 0), some (.getfield 9, 3, 201, 10), none, none, some (.iconst 0, 1, 0, 0), some (.iaload, 1, 0, 0), some (.ireturn, 1, 0, 0), some (.aload_n 0, 1, 0, 0), some (.getfield 9, 3, 201, 10), none, none, some (.iconst 1, 1, 0, 0), some (.iaload, 1, 0, 0), some (.ireturn, 1, 0, 0), some (.aload_n 0, 1, 0, 0), some (.getfield 9, 3, 201, 10), none, none, some (.iconst 2, 1, 0, 0), some (.iaload, 1, 0, 0), some (.ireturn, 1, 0, 0), some (.aload_n 0, 1, 0, 0), some (.getfield 9, 3, 201, 10), none, none, some (.iconst 3, 1, 0, 0), some (.iaload, 1, 0, 0), some (.ireturn, 1, 0, 0), some (.aload_n 0, 1, 0, 0), some (.getfield 9, 3, 201, 10), none, none, some (.iconst 4, 1, 0, 0), some (.iaload, 1, 0, 0), some (.ireturn, 1, 0, 0), some (.aload_n 0, 1, 0, 0), some (.getfield 9, 3, 201, 10), none, none, some (.iconst 5, 1, 0, 0), some (.iaload, 1, 0, 0), some (.ireturn, 1, 0, 0), some (.aload_n 0, 1, 0, 0), some (.getfield 9, 3, 201, 10), none, none, some (.bipush 6, 2, 0, 0), none, some (.iaload, 1, 0, 0), some (.ireturn, 1, 0, 0), some (.aload_n 0, 1, 0, 0), some (.getfield 266, 3, 40, 10), none, none, some (.ireturn, 1, 0, 0), some (.iconst (-1), 1, 0, 0), some (.ireturn, 1, 0, 0)]
def tb_J6_bitCount_0f7a4 : List (Option m_E) := [some (.iload_n 0, 1, 0, 0), some (.iload_n 0, 1, 0, 0), some (.iconst 1, 1, 0, 0), some (.iushr, 1, 0, 0), some (.ldc_w 265, 3, 1431655765, 0), none, none, some (.iand, 1, 0, 0), some (.isub, 1, 0, 0), some (.istore_n 0, 1, 0, 0), some (.iload_n 0, 1, 0, 0), some (.ldc_w 266, 3, 858993459, 0), none, none, some (.iand, 1, 0, 0), some (.iload_n 0, 1, 0, 0), some (.iconst 2, 1, 0, 0), some (.iushr, 1, 0, 0), some (.ldc_w 266, 3, 858993459, 0), none, none, some (.iand, 1, 0, 0), some (.iadd, 1, 0, 0), some (.istore_n 0, 1, 0, 0), some (.iload_n 0, 1, 0, 0), some (.iload_n 0, 1, 0, 0), some (.iconst 4, 1, 0, 0), some (.iushr, 1, 0, 0), some (.iadd, 1, 0, 0), some (.ldc_w 267, 3, 252645135, 0), none, none, some (.iand, 1, 0, 0), some (.istore_n 0, 1, 0, 0), some (.iload_n 0, 1, 0, 0), some (.iload_n 0, 1, 0, 0), some (.bipush 8, 2, 0, 0), none, some (.iushr, 1, 0, 0), some (.iadd, 1, 0, 0), some (.istore_n 0, 1, 0, 0), some (.iload_n 0, 1, 0, 0), some (.iload_n 0, 1, 0, 0), some (.bipush 16, 2, 0, 0), none, some (.iushr, 1, 0, 0), some (.iadd, 1, 0, 0), some (.istore_n 0, 1, 0, 0), some (.iload_n 0, 1, 0, 0), some (.bipush 63, 2, 0, 0), none, some (.iand, 1, 0, 0), some (.ireturn, 1, 0, 0)]
def tb_J7_fill_53178 : List (Option m_E) := [some (.iconst 0, 1, 0, 0), some (.istore_n 2, 1, 0, 0), some (.aload_n 0, 1, 0, 0), some (.arraylength, 1, 0, 0), some (.istore_n 3, 1, 0, 0), some (.iload_n 2, 1, 0, 0), some (.iload_n 3, 1, 0, 0), some (.if_icmp .ge 13, 3, 20, 0), none, none, some (.aload_n 0, 1, 0, 0), some (.iload_n 2, 1, 0, 0), some (.iload_n 1, 1, 0, 0), some (.iastore, 1, 0, 0), some (.iinc 2 1, 3, 0, 0), none, none, some (.goto (-12), 3, 5, 0), none, none, some (.return_, 1, 0, 0)]
def tb_L_law : List (Option m_E) := [some (.new 7, 3, 0, 9), none, none, some (.dup, 1, 0, 0), some (.invokespecial 9, 3, 69, 0), none, none, some (.astore_n 1, 1, 0, 0), some (.new 10, 3, 0, 10), none, none, some (.dup, 1, 0, 0), some (.invokespecial 12, 3, 104, 0), none, none, some (.astore_n 2, 1, 0, 0), some (.iconst 0, 1, 0, 0), some (.istore_n 3, 1, 0, 0), some (.iload_n 3, 1, 0, 0), some (.aload_n 0, 1, 0, 0), some (.arraylength, 1, 0, 0), some (.bipush 6, 2, 0, 0), none, some (.isub, 1, 0, 0), some (.if_icmp .gt 1129, 3, 1153, 0), none, none, some (.aload_n 0, 1, 0, 0), some (.iload_n 3, 1, 0, 0), some (.iaload, 1, 0, 0), some (.bipush 31, 2, 0, 0), none, some (.iand, 1, 0, 0), some (.tableswitch 1114 0 26 #[123, 186, 199, 232, 285, 318, 381, 434, 457, 480, 533, 576, 609, 632, 645, 688, 711, 734, 787, 850, 903, 966, 1009, 1032, 1065, 1078, 1091], 123, 0, 0), none, none, none, none, none, none, none, none, none, none, none, none, none, none, none, none, none, none, none, none, none, none, none, none, none, none, none, none, none, none, none, none, none, none, none, none, none, none, none, none, none, none, none, none, none, none, none, none, none, none, none, none, none, none, none, none, none, none, none, none, none, none, none, none, none, none, none, none, none, none, none, none, none, none, none, none, none, none, none, none, none, none, none, none, none, none, none, none, none, none, none, none, none, none, none, none, none, none, none, none, none, none, none, none, none, none, none, none, none, none, none, none, none, none, none, none, none, none, none, none, none, none, some (.aload_n 1, 1, 0, 0), some (.aload_n 0, 1, 0, 0), some (.iload_n 3, 1, 0, 0), some (.iconst 1, 1, 0, 0), some (.iadd, 1, 0, 0), some (.iaload, 1, 0, 0), some (.i2l, 1, 0, 0), some (.bipush 32, 2, 0, 0), none, some (.lshl, 1, 0, 0), some (.aload_n 0, 1, 0, 0), some (.iload_n 3, 1, 0, 0), some (.iconst 2, 1, 0, 0), some (.iadd, 1, 0, 0), some (.iaload, 1, 0, 0), some (.i2l, 1, 0, 0), some (.ldc2_w 13, 3, 4294967295, 0), none, none, some (.land, 1, 0, 0), some (.lor, 1, 0, 0), some (.aload_n 0, 1, 0, 0), some (.iload_n 3, 1, 0, 0), some (.iconst 3, 1, 0, 0), some (.iadd, 1, 0, 0), some (.iaload, 1, 0, 0), some (.invokevirtual 15, 3, 70, 2), none, none, some (.aload_n 2, 1, 0, 0), some (.aload_n 0, 1, 0, 0), some (.iload_n 3, 1, 0, 0), some (.iconst 1, 1, 0, 0), some (.iadd, 1, 0, 0), some (.iaload, 1, 0, 0), some (.i2l, 1, 0, 0), some (.bipush 32, 2, 0, 0), none, some (.lshl, 1, 0, 0), some (.aload_n 0, 1, 0, 0), some (.iload_n 3, 1, 0, 0), some (.iconst 2, 1, 0, 0), some (.iadd, 1, 0, 0), some (.iaload, 1, 0, 0), some (.i2l, 1, 0, 0), some (.ldc2_w 13, 3, 4294967295, 0), none, none, some (.land, 1, 0, 0), some (.lor, 1, 0, 0), some (.aload_n 0, 1, 0, 0), some (.iload_n 3, 1, 0, 0), some (.iconst 3, 1, 0, 0), some (.iadd, 1, 0, 0), some (.iaload, 1, 0, 0), some (.invokevirtual 19, 3, 111, 2), none, none, some (.if_icmp .eq 933, 3, 1147, 0), none, none, some (.iconst 0, 1, 0, 0), some (.ireturn, 1, 0, 1), some (.aload_n 1, 1, 0, 0), some (.invokevirtual 20, 3, 71, 0), none, none, some (.aload_n 2, 1, 0, 0), some (.invokevirtual 24, 3, 124, 0), none, none, some (.if_icmp .eq 920, 3, 1147, 0), none, none, some (.iconst 0, 1, 0, 0), some (.ireturn, 1, 0, 1), some (.aload_n 1, 1, 0, 0), some (.aload_n 0, 1, 0, 0), some (.iload_n 3, 1, 0, 0), some (.iconst 1, 1, 0, 0), some (.iadd, 1, 0, 0), some (.iaload, 1, 0, 0), some (.aload_n 0, 1, 0, 0), some (.iload_n 3, 1, 0, 0), some (.iconst 2, 1, 0, 0), some (.iadd, 1, 0, 0), some (.iaload, 1, 0, 0), some (.invokevirtual 25, 3, 72, 2), none, none, some (.aload_n 2, 1, 0, 0), some (.aload_n 0, 1, 0, 0), some (.iload_n 3, 1, 0, 0), some (.iconst 1, 1, 0, 0), some (.iadd, 1, 0, 0), some (.iaload, 1, 0, 0), some (.aload_n 0, 1, 0, 0), some (.iload_n 3, 1, 0, 0), some (.iconst 2, 1, 0, 0), some (.iadd, 1, 0, 0), some (.iaload, 1, 0, 0), some (.invokevirtual 29, 3, 125, 2), none, none, some (.if_icmp .eq 887, 3, 1147, 0), none, none, some (.iconst 0, 1, 0, 0), some (.ireturn, 1, 0, 1), some (.aload_n 1, 1, 0, 0), some (.aload_n 0, 1, 0, 0), some (.iload_n 3, 1, 0, 0), some (.iconst 1, 1, 0, 0), some (.iadd, 1, 0, 0), some (.iaload, 1, 0, 0), some (.aload_n 0, 1, 0, 0), some (.iload_n 3, 1, 0, 0), some (.iconst 2, 1, 0, 0), some (.iadd, 1, 0, 0), some (.iaload, 1, 0, 0), some (.aload_n 0, 1, 0, 0), some (.iload_n 3, 1, 0, 0), some (.iconst 3, 1, 0, 0), some (.iadd, 1, 0, 0), some (.iaload, 1, 0, 0), some (.aload_n 0, 1, 0, 0), some (.iload_n 3, 1, 0, 0), some (.iconst 4, 1, 0, 0), some (.iadd, 1, 0, 0), some (.iaload, 1, 0, 0), some (.invokevirtual 30, 3, 73, 4), none, none, some (.aload_n 2, 1, 0, 0), some (.aload_n 0, 1, 0, 0), some (.iload_n 3, 1, 0, 0), some (.iconst 1, 1, 0, 0), some (.iadd, 1, 0, 0), some (.iaload, 1, 0, 0), some (.aload_n 0, 1, 0, 0), some (.iload_n 3, 1, 0, 0), some (.iconst 2, 1, 0, 0), some (.iadd, 1, 0, 0), some (.iaload, 1, 0, 0), some (.aload_n 0, 1, 0, 0), some (.iload_n 3, 1, 0, 0), some (.iconst 3, 1, 0, 0), some (.iadd, 1, 0, 0), some (.iaload, 1, 0, 0), some (.aload_n 0, 1, 0, 0), some (.iload_n 3, 1, 0, 0), some (.iconst 4, 1, 0, 0), some (.iadd, 1, 0, 0), some (.iaload, 1, 0, 0), some (.invokevirtual 34, 3, 126, 4), none, none, some (.if_icmp .eq 834, 3, 1147, 0), none, none, some (.iconst 0, 1, 0, 0), some (.ireturn, 1, 0, 1), some (.aload_n 1, 1, 0, 0), some (.aload_n 0, 1, 0, 0), some (.iload_n 3, 1, 0, 0), some (.iconst 1, 1, 0, 0), some (.iadd, 1, 0, 0), some (.iaload, 1, 0, 0), some (.aload_n 0, 1, 0, 0), some (.iload_n 3, 1, 0, 0), some (.iconst 2, 1, 0, 0), some (.iadd, 1, 0, 0), some (.iaload, 1, 0, 0), some (.invokevirtual 35, 3, 74, 2), none, none, some (.aload_n 2, 1, 0, 0), some (.aload_n 0, 1, 0, 0), some (.iload_n 3, 1, 0, 0), some (.iconst 1, 1, 0, 0), some (.iadd, 1, 0, 0), some (.iaload, 1, 0, 0), some (.aload_n 0, 1, 0, 0), some (.iload_n 3, 1, 0, 0), some (.iconst 2, 1, 0, 0), some (.iadd, 1, 0, 0), some (.iaload, 1, 0, 0), some (.invokevirtual 38, 3, 136, 2), none, none, some (.if_icmp .eq 801, 3, 1147, 0), none, none, some (.iconst 0, 1, 0, 0), some (.ireturn, 1, 0, 1), some (.aload_n 1, 1, 0, 0), some (.aload_n 0, 1, 0, 0), some (.iload_n 3, 1, 0, 0), some (.iconst 1, 1, 0, 0), some (.iadd, 1, 0, 0), some (.iaload, 1, 0, 0), some (.aload_n 0, 1, 0, 0), some (.iload_n 3, 1, 0, 0), some (.iconst 2, 1, 0, 0), some (.iadd, 1, 0, 0), some (.iaload, 1, 0, 0), some (.aload_n 0, 1, 0, 0), some (.iload_n 3, 1, 0, 0), some (.iconst 3, 1, 0, 0), some (.iadd, 1, 0, 0), some (.iaload, 1, 0, 0), some (.aload_n 0, 1, 0, 0), some (.iload_n 3, 1, 0, 0), some (.iconst 4, 1, 0, 0), some (.iadd, 1, 0, 0), some (.iaload, 1, 0, 0), some (.aload_n 0, 1, 0, 0), some (.iload_n 3, 1, 0, 0), some (.iconst 5, 1, 0, 0), some (.iadd, 1, 0, 0), some (.iaload, 1, 0, 0), some (.invokevirtual 39, 3, 75, 5), none, none, some (.aload_n 2, 1, 0, 0), some (.aload_n 0, 1, 0, 0), some (.iload_n 3, 1, 0, 0), some (.iconst 1, 1, 0, 0), some (.iadd, 1, 0, 0), some (.iaload, 1, 0, 0), some (.aload_n 0, 1, 0, 0), some (.iload_n 3, 1, 0, 0), some (.iconst 2, 1, 0, 0), some (.iadd, 1, 0, 0), some (.iaload, 1, 0, 0), some (.aload_n 0, 1, 0, 0), some (.iload_n 3, 1, 0, 0), some (.iconst 3, 1, 0, 0), some (.iadd, 1, 0, 0), some (.iaload, 1, 0, 0), some (.aload_n 0, 1, 0, 0), some (.iload_n 3, 1, 0, 0), some (.iconst 4, 1, 0, 0), some (.iadd, 1, 0, 0), some (.iaload, 1, 0, 0), some (.aload_n 0, 1, 0, 0), some (.iload_n 3, 1, 0, 0), some (.iconst 5, 1, 0, 0), some (.iadd, 1, 0, 0), some (.iaload, 1, 0, 0), some (.invokevirtual 43, 3, 137, 5), none, none, some (.if_icmp .eq 738, 3, 1147, 0), none, none, some (.iconst 0, 1, 0, 0), some (.ireturn, 1, 0, 1), some (.aload_n 1, 1, 0, 0), some (.aload_n 0, 1, 0, 0), some (.iload_n 3, 1, 0, 0), some (.iconst 1, 1, 0, 0), some (.iadd, 1, 0, 0), some (.iaload, 1, 0, 0), some (.aload_n 0, 1, 0, 0), some (.iload_n 3, 1, 0, 0), some (.iconst 2, 1, 0, 0), some (.iadd, 1, 0, 0), some (.iaload, 1, 0, 0), some (.aload_n 0, 1, 0, 0), some (.iload_n 3, 1, 0, 0), some (.iconst 3, 1, 0, 0), some (.iadd, 1, 0, 0), some (.iaload, 1, 0, 0), some (.aload_n 0, 1, 0, 0), some (.iload_n 3, 1, 0, 0), some (.iconst 4, 1, 0, 0), some (.iadd, 1, 0, 0), some (.iaload, 1, 0, 0), some (.invokevirtual 44, 3, 76, 4), none, none, some (.aload_n 2, 1, 0, 0), some (.aload_n 0, 1, 0, 0), some (.iload_n 3, 1, 0, 0), some (.iconst 1, 1, 0, 0), some (.iadd, 1, 0, 0), some (.iaload, 1, 0, 0), some (.aload_n 0, 1, 0, 0), some (.iload_n 3, 1, 0, 0), some (.iconst 2, 1, 0, 0), some (.iadd, 1, 0, 0), some (.iaload, 1, 0, 0), some (.aload_n 0, 1, 0, 0), some (.iload_n 3, 1, 0, 0), some (.iconst 3, 1, 0, 0), some (.iadd, 1, 0, 0), some (.iaload, 1, 0, 0), some (.aload_n 0, 1, 0, 0), some (.iload_n 3, 1, 0, 0), some (.iconst 4, 1, 0, 0), some (.iadd, 1, 0, 0), some (.iaload, 1, 0, 0), some (.invokevirtual 47, 3, 138, 4), none, none, some (.if_icmp .eq 685, 3, 1147, 0), none, none, some (.iconst 0, 1, 0, 0), some (.ireturn, 1, 0, 1), some (.aload_n 1, 1, 0, 0), some (.aload_n 0, 1, 0, 0), some (.iload_n 3, 1, 0, 0), some (.iconst 1, 1, 0, 0), some (.iadd, 1, 0, 0), some (.iaload, 1, 0, 0), some (.invokevirtual 48, 3, 77, 1), none, none, some (.aload_n 2, 1, 0, 0), some (.aload_n 0, 1, 0, 0), some (.iload_n 3, 1, 0, 0), some (.iconst 1, 1, 0, 0), some (.iadd, 1, 0, 0), some (.iaload, 1, 0, 0), some (.invokevirtual 52, 3, 139, 1), none, none, some (.if_icmp .eq 662, 3, 1147, 0), none, none, some (.iconst 0, 1, 0, 0), some (.ireturn, 1, 0, 1), some (.aload_n 1, 1, 0, 0), some (.aload_n 0, 1, 0, 0), some (.iload_n 3, 1, 0, 0), some (.iconst 1, 1, 0, 0), some (.iadd, 1, 0, 0), some (.iaload, 1, 0, 0), some (.invokevirtual 53, 3, 78, 1), none, none, some (.aload_n 2, 1, 0, 0), some (.aload_n 0, 1, 0, 0), some (.iload_n 3, 1, 0, 0), some (.iconst 1, 1, 0, 0), some (.iadd, 1, 0, 0), some (.iaload, 1, 0, 0), some (.invokevirtual 56, 3, 142, 1), none, none, some (.if_icmp .eq 639, 3, 1147, 0), none, none, some (.iconst 0, 1, 0, 0), some (.ireturn, 1, 0, 1), some (.aload_n 1, 1, 0, 0), some (.aload_n 0, 1, 0, 0), some (.iload_n 3, 1, 0, 0), some (.iconst 1, 1, 0, 0), some (.iadd, 1, 0, 0), some (.iaload, 1, 0, 0), some (.aload_n 0, 1, 0, 0), some (.iload_n 3, 1, 0, 0), some (.iconst 2, 1, 0, 0), some (.iadd, 1, 0, 0), some (.iaload, 1, 0, 0), some (.aload_n 0, 1, 0, 0), some (.iload_n 3, 1, 0, 0), some (.iconst 3, 1, 0, 0), some (.iadd, 1, 0, 0), some (.iaload, 1, 0, 0), some (.aload_n 0, 1, 0, 0), some (.iload_n 3, 1, 0, 0), some (.iconst 4, 1, 0, 0), some (.iadd, 1, 0, 0), some (.iaload, 1, 0, 0), some (.invokevirtual 57, 3, 79, 4), none, none, some (.aload_n 2, 1, 0, 0), some (.aload_n 0, 1, 0, 0), some (.iload_n 3, 1, 0, 0), some (.iconst 1, 1, 0, 0), some (.iadd, 1, 0, 0), some (.iaload, 1, 0, 0), some (.aload_n 0, 1, 0, 0), some (.iload_n 3, 1, 0, 0), some (.iconst 2, 1, 0, 0), some (.iadd, 1, 0, 0), some (.iaload, 1, 0, 0), some (.aload_n 0, 1, 0, 0), some (.iload_n 3, 1, 0, 0), some (.iconst 3, 1, 0, 0), some (.iadd, 1, 0, 0), some (.iaload, 1, 0, 0), some (.aload_n 0, 1, 0, 0), some (.iload_n 3, 1, 0, 0), some (.iconst 4, 1, 0, 0), some (.iadd, 1, 0, 0), some (.iaload, 1, 0, 0), some (.invokevirtual 60, 3, 144, 4), none, none, some (.if_icmp .eq 586, 3, 1147, 0), none, none, some (.iconst 0, 1, 0, 0), some (.ireturn, 1, 0, 1), some (.aload_n 1, 1, 0, 0), some (.aload_n 0, 1, 0, 0), some (.iload_n 3, 1, 0, 0), some (.iconst 1, 1, 0, 0), some (.iadd, 1, 0, 0), some (.iaload, 1, 0, 0), some (.aload_n 0, 1, 0, 0), some (.iload_n 3, 1, 0, 0), some (.iconst 2, 1, 0, 0), some (.iadd, 1, 0, 0), some (.iaload, 1, 0, 0), some (.aload_n 0, 1, 0, 0), some (.iload_n 3, 1, 0, 0), some (.iconst 3, 1, 0, 0), some (.iadd, 1, 0, 0), some (.iaload, 1, 0, 0), some (.invokevirtual 61, 3, 80, 3), none, none, some (.aload_n 2, 1, 0, 0), some (.aload_n 0, 1, 0, 0), some (.iload_n 3, 1, 0, 0), some (.iconst 1, 1, 0, 0), some (.iadd, 1, 0, 0), some (.iaload, 1, 0, 0), some (.aload_n 0, 1, 0, 0), some (.iload_n 3, 1, 0, 0), some (.iconst 2, 1, 0, 0), some (.iadd, 1, 0, 0), some (.iaload, 1, 0, 0), some (.aload_n 0, 1, 0, 0), some (.iload_n 3, 1, 0, 0), some (.iconst 3, 1, 0, 0), some (.iadd, 1, 0, 0), some (.iaload, 1, 0, 0), some (.invokevirtual 65, 3, 146, 3), none, none, some (.if_icmp .eq 543, 3, 1147, 0), none, none, some (.iconst 0, 1, 0, 0), some (.ireturn, 1, 0, 1), some (.aload_n 1, 1, 0, 0), some (.aload_n 0, 1, 0, 0), some (.iload_n 3, 1, 0, 0), some (.iconst 1, 1, 0, 0), some (.iadd, 1, 0, 0), some (.iaload, 1, 0, 0), some (.aload_n 0, 1, 0, 0), some (.iload_n 3, 1, 0, 0), some (.iconst 2, 1, 0, 0), some (.iadd, 1, 0, 0), some (.iaload, 1, 0, 0), some (.invokevirtual 66, 3, 81, 2), none, none, some (.aload_n 2, 1, 0, 0), some (.aload_n 0, 1, 0, 0), some (.iload_n 3, 1, 0, 0), some (.iconst 1, 1, 0, 0), some (.iadd, 1, 0, 0), some (.iaload, 1, 0, 0), some (.aload_n 0, 1, 0, 0), some (.iload_n 3, 1, 0, 0), some (.iconst 2, 1, 0, 0), some (.iadd, 1, 0, 0), some (.iaload, 1, 0, 0), some (.invokevirtual 69, 3, 147, 2), none, none, some (.if_icmp .eq 510, 3, 1147, 0), none, none, some (.iconst 0, 1, 0, 0), some (.ireturn, 1, 0, 1), some (.aload_n 1, 1, 0, 0), some (.aload_n 0, 1, 0, 0), some (.iload_n 3, 1, 0, 0), some (.iconst 1, 1, 0, 0), some (.iadd, 1, 0, 0), some (.iaload, 1, 0, 0), some (.invokevirtual 70, 3, 82, 1), none, none, some (.aload_n 2, 1, 0, 0), some (.aload_n 0, 1, 0, 0), some (.iload_n 3, 1, 0, 0), some (.iconst 1, 1, 0, 0), some (.iadd, 1, 0, 0), some (.iaload, 1, 0, 0), some (.invokevirtual 73, 3, 148, 1), none, none, some (.if_icmp .eq 487, 3, 1147, 0), none, none, some (.iconst 0, 1, 0, 0), some (.ireturn, 1, 0, 1), some (.aload_n 1, 1, 0, 0), some (.invokevirtual 74, 3, 83, 0), none, none, some (.aload_n 2, 1, 0, 0), some (.invokevirtual 77, 3, 149, 0), none, none, some (.if_icmp .eq 474, 3, 1147, 0), none, none, some (.iconst 0, 1, 0, 0), some (.ireturn, 1, 0, 1), some (.aload_n 1, 1, 0, 0), some (.aload_n 0, 1, 0, 0), some (.iload_n 3, 1, 0, 0), some (.iconst 1, 1, 0, 0), some (.iadd, 1, 0, 0), some (.iaload, 1, 0, 0), some (.aload_n 0, 1, 0, 0), some (.iload_n 3, 1, 0, 0), some (.iconst 2, 1, 0, 0), some (.iadd, 1, 0, 0), some (.iaload, 1, 0, 0), some (.aload_n 0, 1, 0, 0), some (.iload_n 3, 1, 0, 0), some (.iconst 3, 1, 0, 0), some (.iadd, 1, 0, 0), some (.iaload, 1, 0, 0), some (.invokevirtual 78, 3, 84, 3), none, none, some (.aload_n 2, 1, 0, 0), some (.aload_n 0, 1, 0, 0), some (.iload_n 3, 1, 0, 0), some (.iconst 1, 1, 0, 0), some (.iadd, 1, 0, 0), some (.iaload, 1, 0, 0), some (.aload_n 0, 1, 0, 0), some (.iload_n 3, 1, 0, 0), some (.iconst 2, 1, 0, 0), some (.iadd, 1, 0, 0), some (.iaload, 1, 0, 0), some (.aload_n 0, 1, 0, 0), some (.iload_n 3, 1, 0, 0), some (.iconst 3, 1, 0, 0), some (.iadd, 1, 0, 0), some (.iaload, 1, 0, 0), some (.invokevirtual 81, 3, 150, 3), none, none, some (.if_icmp .eq 431, 3, 1147, 0), none, none, some (.iconst 0, 1, 0, 0), some (.ireturn, 1, 0, 1), some (.aload_n 1, 1, 0, 0), some (.aload_n 0, 1, 0, 0), some (.iload_n 3, 1, 0, 0), some (.iconst 1, 1, 0, 0), some (.iadd, 1, 0, 0), some (.iaload, 1, 0, 0), some (.invokevirtual 82, 3, 85, 1), none, none, some (.aload_n 2, 1, 0, 0), some (.aload_n 0, 1, 0, 0), some (.iload_n 3, 1, 0, 0), some (.iconst 1, 1, 0, 0), some (.iadd, 1, 0, 0), some (.iaload, 1, 0, 0), some (.invokevirtual 85, 3, 151, 1), none, none, some (.if_icmp .eq 408, 3, 1147, 0), none, none, some (.iconst 0, 1, 0, 0), some (.ireturn, 1, 0, 1), some (.aload_n 1, 1, 0, 0), some (.aload_n 0, 1, 0, 0), some (.iload_n 3, 1, 0, 0), some (.iconst 1, 1, 0, 0), some (.iadd, 1, 0, 0), some (.iaload, 1, 0, 0), some (.invokevirtual 86, 3, 86, 1), none, none, some (.aload_n 2, 1, 0, 0), some (.aload_n 0, 1, 0, 0), some (.iload_n 3, 1, 0, 0), some (.iconst 1, 1, 0, 0), some (.iadd, 1, 0, 0), some (.iaload, 1, 0, 0), some (.invokevirtual 89, 3, 152, 1), none, none, some (.if_icmp .eq 385, 3, 1147, 0), none, none, some (.iconst 0, 1, 0, 0), some (.ireturn, 1, 0, 1), some (.aload_n 1, 1, 0, 0), some (.aload_n 0, 1, 0, 0), some (.iload_n 3, 1, 0, 0), some (.iconst 1, 1, 0, 0), some (.iadd, 1, 0, 0), some (.iaload, 1, 0, 0), some (.aload_n 0, 1, 0, 0), some (.iload_n 3, 1, 0, 0), some (.iconst 2, 1, 0, 0), some (.iadd, 1, 0, 0), some (.iaload, 1, 0, 0), some (.aload_n 0, 1, 0, 0), some (.iload_n 3, 1, 0, 0), some (.iconst 3, 1, 0, 0), some (.iadd, 1, 0, 0), some (.iaload, 1, 0, 0), some (.aload_n 0, 1, 0, 0), some (.iload_n 3, 1, 0, 0), some (.iconst 4, 1, 0, 0), some (.iadd, 1, 0, 0), some (.iaload, 1, 0, 0), some (.invokevirtual 90, 3, 87, 4), none, none, some (.aload_n 2, 1, 0, 0), some (.aload_n 0, 1, 0, 0), some (.iload_n 3, 1, 0, 0), some (.iconst 1, 1, 0, 0), some (.iadd, 1, 0, 0), some (.iaload, 1, 0, 0), some (.aload_n 0, 1, 0, 0), some (.iload_n 3, 1, 0, 0), some (.iconst 2, 1, 0, 0), some (.iadd, 1, 0, 0), some (.iaload, 1, 0, 0), some (.aload_n 0, 1, 0, 0), some (.iload_n 3, 1, 0, 0), some (.iconst 3, 1, 0, 0), some (.iadd, 1, 0, 0), some (.iaload, 1, 0, 0), some (.aload_n 0, 1, 0, 0), some (.iload_n 3, 1, 0, 0), some (.iconst 4, 1, 0, 0), some (.iadd, 1, 0, 0), some (.iaload, 1, 0, 0), some (.invokevirtual 93, 3, 153, 4), none, none, some (.if_icmp .eq 332, 3, 1147, 0), none, none, some (.iconst 0, 1, 0, 0), some (.ireturn, 1, 0, 1), some (.aload_n 1, 1, 0, 0), some (.aload_n 0, 1, 0, 0), some (.iload_n 3, 1, 0, 0), some (.iconst 1, 1, 0, 0), some (.iadd, 1, 0, 0), some (.iaload, 1, 0, 0), some (.aload_n 0, 1, 0, 0), some (.iload_n 3, 1, 0, 0), some (.iconst 2, 1, 0, 0), some (.iadd, 1, 0, 0), some (.iaload, 1, 0, 0), some (.aload_n 0, 1, 0, 0), some (.iload_n 3, 1, 0, 0), some (.iconst 3, 1, 0, 0), some (.iadd, 1, 0, 0), some (.iaload, 1, 0, 0), some (.aload_n 0, 1, 0, 0), some (.iload_n 3, 1, 0, 0), some (.iconst 4, 1, 0, 0), some (.iadd, 1, 0, 0), some (.iaload, 1, 0, 0), some (.aload_n 0, 1, 0, 0), some (.iload_n 3, 1, 0, 0), some (.iconst 5, 1, 0, 0), some (.iadd, 1, 0, 0), some (.iaload, 1, 0, 0), some (.invokevirtual 94, 3, 88, 5), none, none, some (.aload_n 2, 1, 0, 0), some (.aload_n 0, 1, 0, 0), some (.iload_n 3, 1, 0, 0), some (.iconst 1, 1, 0, 0), some (.iadd, 1, 0, 0), some (.iaload, 1, 0, 0), some (.aload_n 0, 1, 0, 0), some (.iload_n 3, 1, 0, 0), some (.iconst 2, 1, 0, 0), some (.iadd, 1, 0, 0), some (.iaload, 1, 0, 0), some (.aload_n 0, 1, 0, 0), some (.iload_n 3, 1, 0, 0), some (.iconst 3, 1, 0, 0), some (.iadd, 1, 0, 0), some (.iaload, 1, 0, 0), some (.aload_n 0, 1, 0, 0), some (.iload_n 3, 1, 0, 0), some (.iconst 4, 1, 0, 0), some (.iadd, 1, 0, 0), some (.iaload, 1, 0, 0), some (.aload_n 0, 1, 0, 0), some (.iload_n 3, 1, 0, 0), some (.iconst 5, 1, 0, 0), some (.iadd, 1, 0, 0), some (.iaload, 1, 0, 0), some (.invokevirtual 97, 3, 160, 5), none, none, some (.if_icmp .eq 269, 3, 1147, 0), none, none, some (.iconst 0, 1, 0, 0), some (.ireturn, 1, 0, 1), some (.aload_n 1, 1, 0, 0), some (.aload_n 0, 1, 0, 0), some (.iload_n 3, 1, 0, 0), some (.iconst 1, 1, 0, 0), some (.iadd, 1, 0, 0), some (.iaload, 1, 0, 0), some (.aload_n 0, 1, 0, 0), some (.iload_n 3, 1, 0, 0), some (.iconst 2, 1, 0, 0), some (.iadd, 1, 0, 0), some (.iaload, 1, 0, 0), some (.aload_n 0, 1, 0, 0), some (.iload_n 3, 1, 0, 0), some (.iconst 3, 1, 0, 0), some (.iadd, 1, 0, 0), some (.iaload, 1, 0, 0), some (.aload_n 0, 1, 0, 0), some (.iload_n 3, 1, 0, 0), some (.iconst 4, 1, 0, 0), some (.iadd, 1, 0, 0), some (.iaload, 1, 0, 0), some (.invokevirtual 98, 3, 89, 4), none, none, some (.aload_n 2, 1, 0, 0), some (.aload_n 0, 1, 0, 0), some (.iload_n 3, 1, 0, 0), some (.iconst 1, 1, 0, 0), some (.iadd, 1, 0, 0), some (.iaload, 1, 0, 0), some (.aload_n 0, 1, 0, 0), some (.iload_n 3, 1, 0, 0), some (.iconst 2, 1, 0, 0), some (.iadd, 1, 0, 0), some (.iaload, 1, 0, 0), some (.aload_n 0, 1, 0, 0), some (.iload_n 3, 1, 0, 0), some (.iconst 3, 1, 0, 0), some (.iadd, 1, 0, 0), some (.iaload, 1, 0, 0), some (.aload_n 0, 1, 0, 0), some (.iload_n 3, 1, 0, 0), some (.iconst 4, 1, 0, 0), some (.iadd, 1, 0, 0), some (.iaload, 1, 0, 0), some (.invokevirtual 101, 3, 162, 4), none, none, some (.if_icmp .eq 216, 3, 1147, 0), none, none, some (.iconst 0, 1, 0, 0), some (.ireturn, 1, 0, 1), some (.aload_n 1, 1, 0, 0), some (.aload_n 0, 1, 0, 0), some (.iload_n 3, 1, 0, 0), some (.iconst 1, 1, 0, 0), some (.iadd, 1, 0, 0), some (.iaload, 1, 0, 0), some (.aload_n 0, 1, 0, 0), some (.iload_n 3, 1, 0, 0), some (.iconst 2, 1, 0, 0), some (.iadd, 1, 0, 0), some (.iaload, 1, 0, 0), some (.aload_n 0, 1, 0, 0), some (.iload_n 3, 1, 0, 0), some (.iconst 3, 1, 0, 0), some (.iadd, 1, 0, 0), some (.iaload, 1, 0, 0), some (.aload_n 0, 1, 0, 0), some (.iload_n 3, 1, 0, 0), some (.iconst 4, 1, 0, 0), some (.iadd, 1, 0, 0), some (.iaload, 1, 0, 0), some (.aload_n 0, 1, 0, 0), some (.iload_n 3, 1, 0, 0), some (.iconst 5, 1, 0, 0), some (.iadd, 1, 0, 0), some (.iaload, 1, 0, 0), some (.invokevirtual 102, 3, 90, 5), none, none, some (.aload_n 2, 1, 0, 0), some (.aload_n 0, 1, 0, 0), some (.iload_n 3, 1, 0, 0), some (.iconst 1, 1, 0, 0), some (.iadd, 1, 0, 0), some (.iaload, 1, 0, 0), some (.aload_n 0, 1, 0, 0), some (.iload_n 3, 1, 0, 0), some (.iconst 2, 1, 0, 0), some (.iadd, 1, 0, 0), some (.iaload, 1, 0, 0), some (.aload_n 0, 1, 0, 0), some (.iload_n 3, 1, 0, 0), some (.iconst 3, 1, 0, 0), some (.iadd, 1, 0, 0), some (.iaload, 1, 0, 0), some (.aload_n 0, 1, 0, 0), some (.iload_n 3, 1, 0, 0), some (.iconst 4, 1, 0, 0), some (.iadd, 1, 0, 0), some (.iaload, 1, 0, 0), some (.aload_n 0, 1, 0, 0), some (.iload_n 3, 1, 0, 0), some (.iconst 5, 1, 0, 0), some (.iadd, 1, 0, 0), some (.iaload, 1, 0, 0), some (.invokevirtual 105, 3, 164, 5), none, none, some (.if_icmp .eq 153, 3, 1147, 0), none, none, some (.iconst 0, 1, 0, 0), some (.ireturn, 1, 0, 1), some (.aload_n 1, 1, 0, 0), some (.aload_n 0, 1, 0, 0), some (.iload_n 3, 1, 0, 0), some (.iconst 1, 1, 0, 0), some (.iadd, 1, 0, 0), some (.iaload, 1, 0, 0), some (.aload_n 0, 1, 0, 0), some (.iload_n 3, 1, 0, 0), some (.iconst 2, 1, 0, 0), some (.iadd, 1, 0, 0), some (.iaload, 1, 0, 0), some (.aload_n 0, 1, 0, 0), some (.iload_n 3, 1, 0, 0), some (.iconst 3, 1, 0, 0), some (.iadd, 1, 0, 0), some (.iaload, 1, 0, 0), some (.invokevirtual 106, 3, 91, 3), none, none, some (.aload_n 2, 1, 0, 0), some (.aload_n 0, 1, 0, 0), some (.iload_n 3, 1, 0, 0), some (.iconst 1, 1, 0, 0), some (.iadd, 1, 0, 0), some (.iaload, 1, 0, 0), some (.aload_n 0, 1, 0, 0), some (.iload_n 3, 1, 0, 0), some (.iconst 2, 1, 0, 0), some (.iadd, 1, 0, 0), some (.iaload, 1, 0, 0), some (.aload_n 0, 1, 0, 0), some (.iload_n 3, 1, 0, 0), some (.iconst 3, 1, 0, 0), some (.iadd, 1, 0, 0), some (.iaload, 1, 0, 0), some (.invokevirtual 109, 3, 173, 3), none, none, some (.if_icmp .eq 110, 3, 1147, 0), none, none, some (.iconst 0, 1, 0, 0), some (.ireturn, 1, 0, 1), some (.aload_n 1, 1, 0, 0), some (.aload_n 0, 1, 0, 0), some (.iload_n 3, 1, 0, 0), some (.iconst 1, 1, 0, 0), some (.iadd, 1, 0, 0), some (.iaload, 1, 0, 0), some (.invokevirtual 110, 3, 92, 1), none, none, some (.aload_n 2, 1, 0, 0), some (.aload_n 0, 1, 0, 0), some (.iload_n 3, 1, 0, 0), some (.iconst 1, 1, 0, 0), some (.iadd, 1, 0, 0), some (.iaload, 1, 0, 0), some (.invokevirtual 113, 3, 174, 1), none, none, some (.if_icmp .eq 87, 3, 1147, 0), none, none, some (.iconst 0, 1, 0, 0), some (.ireturn, 1, 0, 1), some (.aload_n 1, 1, 0, 0), some (.aload_n 0, 1, 0, 0), some (.iload_n 3, 1, 0, 0), some (.iconst 1, 1, 0, 0), some (.iadd, 1, 0, 0), some (.iaload, 1, 0, 0), some (.aload_n 0, 1, 0, 0), some (.iload_n 3, 1, 0, 0), some (.iconst 2, 1, 0, 0), some (.iadd, 1, 0, 0), some (.iaload, 1, 0, 0), some (.invokevirtual 114, 3, 93, 2), none, none, some (.aload_n 2, 1, 0, 0), some (.aload_n 0, 1, 0, 0), some (.iload_n 3, 1, 0, 0), some (.iconst 1, 1, 0, 0), some (.iadd, 1, 0, 0), some (.iaload, 1, 0, 0), some (.aload_n 0, 1, 0, 0), some (.iload_n 3, 1, 0, 0), some (.iconst 2, 1, 0, 0), some (.iadd, 1, 0, 0), some (.iaload, 1, 0, 0), some (.invokevirtual 117, 3, 175, 2), none, none, some (.if_icmp .eq 54, 3, 1147, 0), none, none, some (.iconst 0, 1, 0, 0), some (.ireturn, 1, 0, 1), some (.aload_n 1, 1, 0, 0), some (.invokevirtual 118, 3, 94, 0), none, none, some (.aload_n 2, 1, 0, 0), some (.invokevirtual 121, 3, 176, 0), none, none, some (.if_icmp .eq 41, 3, 1147, 0), none, none, some (.iconst 0, 1, 0, 0), some (.ireturn, 1, 0, 1), some (.aload_n 1, 1, 0, 0), some (.invokevirtual 122, 3, 95, 0), none, none, some (.aload_n 2, 1, 0, 0), some (.invokevirtual 125, 3, 177, 0), none, none, some (.if_icmp .eq 28, 3, 1147, 0), none, none, some (.iconst 0, 1, 0, 0), some (.ireturn, 1, 0, 1), some (.aload_n 1, 1, 0, 0), some (.aload_n 0, 1, 0, 0), some (.iload_n 3, 1, 0, 0), some (.iconst 1, 1, 0, 0), some (.iadd, 1, 0, 0), some (.iaload, 1, 0, 0), some (.invokevirtual 126, 3, 96, 1), none, none, some (.aload_n 2, 1, 0, 0), some (.aload_n 0, 1, 0, 0), some (.iload_n 3, 1, 0, 0), some (.iconst 1, 1, 0, 0), some (.iadd, 1, 0, 0), some (.iaload, 1, 0, 0), some (.invokevirtual 129, 3, 178, 1), none, none, some (.if_icmp .eq 5, 3, 1147, 0), none, none, some (.iconst 0, 1, 0, 0), some (.ireturn, 1, 0, 1), some (.iinc 3 6, 3, 0, 0), none, none, some (.goto (-1132), 3, 18, 0), none, none, some (.iconst 1, 1, 0, 0), some (.ireturn, 1, 0, 1)]
def m_codeL : List (List (Option m_E)) := [tb_X0_init, tb_X0_begin, tb_X0_become, tb_X0_steps, tb_X0_ledAway, tb_X0_leadsTo, tb_X1_init, tb_X1_clear, tb_X1_become, tb_X1_at, tb_X1_put, tb_X1_forgetTalk, tb_X1_takeTalk, tb_X1_hasTalkOf, tb_X1_isSumOf, tb_X2_init, tb_X3_init, tb_X3_reads, tb_X3_handsOver, tb_X3_readsKind, tb_X3_readsE, tb_X3_readsT, tb_X3_readsF, tb_X3_readsTest, tb_X3_readsActs, tb_X3_readsAct, tb_X3_readsSum, tb_X3_term, tb_X3_takesDigit, tb_X3_next, tb_X3_takes, tb_X4_init, tb_X4_begin, tb_X4_add, tb_X4_shortest, tb_X4_finds, tb_X4_breaks, tb_X4_partsWays, tb_X4_carried, tb_X4_turnsToNextOrder, tb_X4_swap, tb_X5_init, tb_X5_become, tb_X5_textAt, tb_X5_boxAt, tb_X5_isInRow, tb_X5_isLedToByAnother, tb_X5_passAlong, tb_X6_init, tb_X6_clear, tb_X6_add, tb_X6_countTerms, tb_X6_signAt, tb_X6_note, tb_X6_lineFor, tb_X6_holds, tb_X6_does, tb_X6_sumOf, tb_X6_value, tb_X7_init, tb_X7_become, tb_X7_runs, tb_X7_runsFrom, tb_X7_answerOf, tb_X8_init, tb_X8_become, tb_X8_sees, tb_X8_opensMany, tb_X8_isTwice, tb_X9_init, tb_X9_feed, tb_X9_text, tb_X9_lines, tb_X9_part, tb_X9_box, tb_X9_work, tb_X9_cell, tb_X9_latest, tb_X9_row, tb_X9_send, tb_X9_lead, tb_X9_led, tb_X9_hold, tb_X9_release, tb_X9_whole, tb_X9_copy, tb_X9_fall, tb_X9_letter, tb_X9_shown, tb_X9_ways, tb_X9_orders, tb_X9_act, tb_X9_trace, tb_X9_as, tb_X9_image, tb_X9_undo, tb_X9_count, tb_X9_refusalOf, tb_X9_isTalk, tb_X9_areTalks, tb_X9_isN, tb_X9_isForm, tb_X9_isDepth, tb_X9_placeOf, tb_X10_init, tb_X10_in, tb_X10_isText, tb_X10_isBox, tb_X10_isTalk, tb_X10_isFour, tb_X10_count1, tb_X10_feed, tb_X10_here, tb_X10_must, tb_X10_emits, tb_X10_marks, tb_X10_cellHere, tb_X10_term, tb_X10_factor, tb_X10_every, tb_X10_some, tb_X10_sum, tb_X10_actHere, tb_X10_lineHere, tb_X10_text, tb_X10_lines, tb_X10_part, tb_X10_place, tb_X10_value, tb_X10_becomes, tb_X10_isSo, tb_X10_acts, tb_X10_works, tb_X10_packet, tb_X10_worksBox, tb_X10_isPacket, tb_X10_box, tb_X10_work, tb_X10_cell, tb_X10_latest, tb_X10_leading, tb_X10_isLedTo, tb_X10_row, tb_X10_sends, tb_X10_send, tb_X10_isInRow, tb_X10_lead, tb_X10_led, tb_X10_hold, tb_X10_release, tb_X10_whole, tb_X10_copy, tb_X10_fall, tb_X10_letter, tb_X10_empties, tb_X10_tries, tb_X10_isKept, tb_X10_keeps, tb_X10_next, tb_X10_breach, tb_X10_shown, tb_X10_lastBy, tb_X10_ways, tb_X10_arranges, tb_X10_orders, tb_X10_runs, tb_X10_isUnder, tb_X10_plainKeeps, tb_X10_keepsActs, tb_X10_plainWorks, tb_X10_worksActs, tb_X10_plainLeads, tb_X10_leadsActs, tb_X10_act, tb_X10_trace, tb_X10_as, tb_X10_image, tb_X10_undo, tb_X10_count, tb_J6_bitCount_0f7a4, tb_J7_fill_53178, tb_L_law]
def m_code (i : Nat) : List (Option m_E) := m_codeL.getD i []
/-- a method, called: d bounds how deep the calls go -/
def m_run (X : Nat → List Int32) : Nat → Nat → List Value → m_H → Option m_R
  | 0, _, _, _ => none
  | d + 1, i, args, h => if (lg_sl args).length ≤ m_nl i then m_exec X (m_run X d) (m_code i) 1000000 0 (lv_args 0 args) [] h else none
end
section
/-! the constant pools: what a number means in a class -/
def m_pf : List (Nat × Nat × Nat × Nat) := [(0, 9, 0, 5), (0, 18, 0, 6), (0, 22, 0, 7), (0, 25, 0, 0), (0, 29, 0, 1), (0, 32, 0, 2), (0, 35, 0, 3), (0, 38, 0, 4), (1, 9, 1, 0), (2, 7, 2, 0), (2, 13, 2, 1), (2, 16, 2, 2), (2, 19, 2, 3), (3, 9, 3, 0), (3, 15, 3, 1), (3, 19, 3, 2), (3, 22, 3, 3), (3, 42, 6, 3), (3, 45, 6, 6), (3, 57, 6, 0), (3, 60, 6, 1), (3, 63, 6, 2), (3, 94, 6, 4), (4, 11, 4, 0), (4, 19, 4, 1), (4, 25, 4, 2), (4, 29, 4, 3), (4, 33, 4, 9), (4, 38, 4, 5), (4, 42, 4, 6), (4, 46, 4, 7), (4, 49, 4, 8), (4, 52, 4, 4), (5, 9, 5, 0), (5, 17, 5, 2), (5, 23, 5, 4), (5, 27, 5, 6), (5, 32, 5, 8), (5, 36, 5, 11), (5, 42, 5, 13), (5, 53, 5, 1), (5, 57, 5, 3), (5, 64, 5, 5), (5, 67, 5, 7), (5, 70, 5, 9), (5, 73, 5, 10), (5, 76, 5, 12), (5, 90, 0, 5), (5, 93, 2, 0), (5, 96, 0, 2), (6, 9, 6, 1), (6, 15, 6, 2), (6, 18, 6, 3), (6, 21, 6, 4), (6, 24, 6, 5), (6, 27, 6, 8), (6, 30, 6, 0), (6, 34, 6, 6), (6, 37, 6, 7), (6, 46, 2, 2), (6, 63, 2, 0), (6, 76, 2, 1), (6, 87, 2, 3), (7, 9, 7, 0), (7, 21, 7, 1), (7, 25, 0, 1), (7, 30, 7, 2), (7, 33, 0, 0), (7, 36, 7, 3), (7, 37, 7, 4), (8, 9, 8, 3), (8, 15, 8, 4), (8, 18, 8, 5), (8, 21, 8, 0), (8, 25, 8, 1), (8, 28, 8, 2), (8, 37, 2, 0), (8, 42, 2, 2), (8, 45, 2, 1), (8, 48, 2, 3), (9, 10, 9, 0), (9, 16, 9, 1), (9, 22, 9, 3), (9, 29, 9, 4), (9, 33, 5, 1), (9, 37, 5, 0), (9, 41, 5, 3), (9, 51, 5, 2), (9, 59, 6, 0), (9, 64, 6, 4), (9, 67, 6, 8), (9, 70, 6, 7), (9, 73, 5, 5), (9, 76, 5, 4), (9, 99, 0, 2), (9, 111, 0, 6), (9, 124, 0, 3), (9, 127, 5, 7), (9, 133, 5, 6), (9, 136, 5, 10), (9, 139, 5, 9), (9, 146, 5, 8), (9, 160, 0, 5), (9, 163, 0, 0), (9, 183, 0, 7), (9, 190, 0, 4), (9, 193, 5, 12), (9, 196, 5, 11), (9, 218, 4, 9), (9, 219, 4, 3), (9, 225, 5, 13), (9, 229, 7, 1), (9, 238, 7, 0), (9, 241, 0, 1), (9, 250, 9, 2), (10, 9, 10, 1), (10, 15, 10, 2), (10, 18, 10, 4), (10, 21, 10, 5), (10, 24, 10, 6), (10, 27, 10, 7), (10, 30, 10, 8), (10, 33, 10, 15), (10, 36, 10, 16), (10, 40, 10, 24), (10, 43, 10, 25), (10, 46, 10, 26), (10, 49, 10, 28), (10, 52, 10, 29), (10, 55, 10, 30), (10, 58, 10, 31), (10, 61, 10, 32), (10, 64, 10, 33), (10, 67, 10, 34), (10, 70, 10, 35), (10, 73, 10, 36), (10, 76, 10, 39), (10, 89, 10, 10), (10, 92, 10, 11), (10, 95, 10, 12), (10, 103, 10, 9), (10, 106, 10, 14), (10, 112, 10, 13), (10, 155, 10, 22), (10, 158, 10, 17), (10, 161, 10, 18), (10, 164, 10, 19), (10, 167, 10, 20), (10, 170, 10, 21), (10, 184, 10, 23), (10, 230, 10, 27), (10, 256, 10, 37), (10, 259, 10, 38), (10, 266, 10, 40), (10, 272, 10, 42), (10, 275, 10, 41), (10, 284, 10, 43), (10, 302, 10, 3)]
def m_pfN : List (Nat × Nat × Nat × Nat) := [(9, 48, 3, 2)]
def m_pmV : List (Nat × Nat × Nat) := [(0, 47, 7), (0, 56, 8), (0, 60, 54), (0, 66, 56), (1, 27, 10), (1, 31, 9), (1, 35, 11), (3, 29, 49), (3, 32, 19), (3, 36, 30), (3, 39, 20), (3, 46, 24), (3, 49, 18), (3, 53, 28), (3, 66, 21), (3, 69, 50), (3, 73, 22), (3, 76, 29), (3, 80, 23), (3, 84, 27), (3, 87, 53), (3, 91, 25), (3, 97, 26), (3, 100, 51), (4, 59, 37), (4, 63, 36), (4, 66, 38), (4, 70, 54), (4, 74, 56), (4, 78, 65), (4, 82, 66), (4, 86, 8), (4, 89, 40), (5, 60, 2), (5, 79, 60), (5, 82, 5), (5, 86, 44), (5, 99, 43), (5, 103, 3), (6, 51, 55), (6, 55, 52), (6, 66, 11), (6, 72, 57), (6, 83, 10), (6, 90, 9), (7, 40, 62), (7, 50, 63), (8, 51, 67), (8, 55, 68), (9, 44, 17), (9, 55, 43), (9, 80, 1), (9, 86, 44), (9, 102, 3), (9, 119, 9), (9, 130, 46), (9, 142, 47), (9, 153, 45), (9, 156, 4), (9, 166, 12), (9, 175, 13), (9, 179, 14), (9, 186, 8), (9, 208, 32), (9, 211, 33), (9, 215, 34), (9, 221, 39), (9, 234, 61), (9, 247, 42), (10, 99, 112), (10, 109, 116), (10, 115, 118), (10, 118, 114), (10, 122, 120), (10, 125, 113), (10, 128, 117), (10, 131, 115), (10, 136, 119), (10, 139, 121), (10, 142, 122), (10, 145, 123), (10, 148, 106), (10, 173, 127), (10, 177, 128), (10, 180, 129), (10, 187, 130), (10, 190, 131), (10, 194, 132), (10, 200, 107), (10, 206, 133), (10, 210, 134), (10, 214, 141), (10, 217, 143), (10, 221, 145), (10, 224, 140), (10, 233, 154), (10, 236, 155), (10, 239, 156), (10, 243, 157), (10, 246, 158), (10, 249, 159), (10, 253, 161), (10, 262, 163), (10, 269, 165), (10, 278, 167), (10, 281, 168), (10, 287, 169), (10, 293, 170), (10, 296, 171), (10, 299, 172), (11, 15, 70), (11, 19, 111), (11, 20, 71), (11, 24, 124), (11, 25, 72), (11, 29, 125), (11, 30, 73), (11, 34, 126), (11, 35, 74), (11, 38, 136), (11, 39, 75), (11, 43, 137), (11, 44, 76), (11, 47, 138), (11, 48, 77), (11, 52, 139), (11, 53, 78), (11, 56, 142), (11, 57, 79), (11, 60, 144), (11, 61, 80), (11, 65, 146), (11, 66, 81), (11, 69, 147), (11, 70, 82), (11, 73, 148), (11, 74, 83), (11, 77, 149), (11, 78, 84), (11, 81, 150), (11, 82, 85), (11, 85, 151), (11, 86, 86), (11, 89, 152), (11, 90, 87), (11, 93, 153), (11, 94, 88), (11, 97, 160), (11, 98, 89), (11, 101, 162), (11, 102, 90), (11, 105, 164), (11, 106, 91), (11, 109, 173), (11, 110, 92), (11, 113, 174), (11, 114, 93), (11, 117, 175), (11, 118, 94), (11, 121, 176), (11, 122, 95), (11, 125, 177), (11, 126, 96), (11, 129, 178)]
def m_pmVN : List (Nat × Nat × Nat) := []
def m_pmS : List (Nat × Nat × Nat) := [(0, 41, 180), (1, 15, 180), (4, 55, 35), (6, 40, 180), (6, 59, 58), (9, 90, 97), (9, 107, 98), (9, 115, 103), (9, 150, 99), (9, 170, 179), (9, 199, 101), (9, 202, 100), (9, 205, 102), (10, 83, 105), (10, 152, 109), (10, 197, 108), (10, 203, 135), (10, 227, 110), (10, 290, 166)]
def m_pmSN : List (Nat × Nat × Nat) := [(6, 79, 103)]
def m_pmI : List (Nat × Nat × Nat) := [(9, 9, 41), (9, 28, 31), (9, 96, 15), (11, 9, 69), (11, 12, 104)]
def m_pmIN : List (Nat × Nat × Nat) := [(0, 17, 6), (3, 28, 48), (4, 36, 6), (4, 37, 64), (5, 41, 59), (5, 46, 0), (9, 21, 16)]
def m_po : List (Nat × Nat) := [(0, 3), (1, 3), (2, 1), (3, 3), (4, 3), (5, 3), (6, 3), (7, 3), (8, 3), (9, 1), (10, 3)]
def m_pa : List (Nat × Nat) := [(0, 50), (1, 21), (5, 47), (7, 15), (8, 31)]
def m_pc : List (Nat × Nat × Nat) := [(0, 15, 1), (3, 26, 6), (4, 9, 1), (4, 17, 8), (4, 23, 6), (5, 15, 6), (5, 21, 0), (5, 30, 2), (5, 39, 7), (9, 7, 5), (9, 19, 3), (9, 26, 4), (9, 94, 2), (11, 7, 9), (11, 10, 10)]
def m_pk : List (Nat × Nat × Int) := [(9, 106, -2147483648), (9, 254, 65535), (10, 135, 100000), (10, 213, -2147483648), (10, 220, 65535), (12, 265, 1431655765), (12, 266, 858993459), (12, 267, 252645135)]
def m_pl : List (Nat × Nat × Int) := [(10, 87, 255), (11, 13, 4294967295)]
end
section
/-! the words that the tables of the Statement hold of the numbers in the pools -/
def lw_good : List Cond := lw_tbl.filter goodWord
theorem lw_good_in {w : Cond} (h : w ∈ lw_good) : w ∈ lw_tbl := (List.mem_filter.mp h).1
theorem lw_good_ok {w : Cond} (h : w ∈ lw_good) : goodWord w = true := (List.mem_filter.mp h).2
def m_cl (i : Nat) : vw_C := vwCl.getD i (RX0, TX0, 8)
def m_ty (i : Nat) : Nat → FieldType := [tyX0, tyX1, tyX2, tyX3, tyX4, tyX5, tyX6, tyX7, tyX8, tyX9, tyX10].getD i tyX0
def m_fd (c k : Nat) : String × String × String × Bool := (m_cl c).2.1 k
def m_host : String := "WayBoxes"
def m_sn (j : Nat) : String := if j = 1 then "BODIES" else "ABOVE"
def m_ps : List (Nat × Nat × Nat) := [(9, 244, 2)]
def m_psN : List (Nat × Nat × Nat) := [(7, 44, 1), (7, 47, 2)]
def m_nw : List Cond := m_pfN.map (fun e => .fieldLinkNest (m_cn e.1) e.2.1 (m_fd e.2.2.1 e.2.2.2).1 (m_fd e.2.2.1 e.2.2.2).2.1 (m_fd e.2.2.1 e.2.2.2).2.2.1 m_host)
  ++ m_psN.map (fun e => .fieldLinkNest (m_cn e.1) e.2.1 m_host (m_sn e.2.2) "[I" m_host)
  ++ m_pmSN.map (fun e => .methodLinkNest (m_cn e.1) e.2.1 (m_y e.2.2) m_host)
  ++ m_pmIN.map (fun e => .methodLinkNest (m_cn e.1) e.2.1 (m_y e.2.2) m_host)
def m_has (w : Cond) : Bool := decide (w ∈ lw_good)
theorem m_has_in {w : Cond} (h : m_has w = true) : w ∈ lw_good := of_decide_eq_true h
/-- a word by its place -/
def m_hi (i : Nat) (w : Cond) : Bool := decide (m_nth lw_tbl i = some w) && goodWord w
theorem m_hi_in {i : Nat} {w : Cond} (h : m_hi i w = true) : w ∈ lw_good := by
  simp only [m_hi, Bool.and_eq_true, decide_eq_true_eq] at h
  rw [m_nth_eq] at h
  exact List.mem_filter.mpr ⟨List.mem_of_getElem? h.1, h.2⟩
def m_pfi : List Nat := [152, 155, 157, 139, 142, 145, 148, 150, 135, 514, 518, 521, 524, 239, 240, 241, 243, 364, 370, 358, 360, 362, 367, 289, 290, 291, 292, 299, 295, 296, 297, 298, 294, 176, 180, 184, 188, 192, 198, 202, 179, 182, 186, 190, 194, 196, 200, 153, 516, 147, 359, 361, 363, 365, 368, 373, 356, 369, 371, 523, 517, 520, 526, 105, 107, 143, 109, 140, 110, 111, 273, 274, 275, 270, 271, 272, 515, 522, 519, 525, 322, 323, 325, 326, 178, 177, 183, 181, 357, 366, 374, 372, 187, 185, 146, 156, 149, 191, 189, 197, 195, 193, 154, 141, 158, 151, 201, 199, 300, 293, 203, 108, 106, 144, 324, 820, 821, 823, 824, 825, 826, 827, 834, 835, 843, 844, 845, 847, 848, 849, 850, 851, 852, 853, 854, 855, 858, 829, 830, 831, 828, 833, 832, 841, 836, 837, 838, 839, 840, 842, 846, 856, 857, 859, 861, 860, 862, 822]
def m_pmVi : List Nat := [486, 800, 540, 562, 570, 633, 634, 394, 401, 405, 413, 445, 461, 409, 417, 437, 421, 425, 429, 433, 441, 449, 453, 457, 709, 720, 713, 718, 719, 724, 729, 717, 753, 795, 801, 598, 610, 611, 612, 544, 548, 566, 574, 578, 558, 765, 773, 733, 737, 346, 469, 481, 495, 536, 585, 594, 606, 621, 625, 629, 657, 661, 669, 694, 698, 702, 749, 761, 790, 969, 997, 985, 973, 977, 989, 993, 1001, 981, 1010, 1006, 965, 1018, 1067, 1063, 1075, 1059, 1071, 1055, 1037, 1047, 1051, 1092, 1100, 1109, 1113, 1160, 1164, 1168, 1156, 1172, 1152, 1180, 1188, 1200, 1204, 1196, 1212, 1208, 1223, 1219, 338, 953, 342, 961, 465, 1014, 473, 1022, 477, 1029, 491, 1033, 579, 1079, 586, 1084, 590, 1088, 602, 1096, 613, 1104, 635, 1117, 639, 1121, 649, 1128, 653, 1132, 665, 1136, 676, 1140, 680, 1144, 684, 1148, 741, 1176, 745, 1184, 757, 1192, 777, 1227, 781, 1231, 786, 1235, 806, 1239, 810, 1243]
def m_pmSi : List Nat := [485, 490, 706, 398, 552, 499, 502, 584, 617, 643, 688, 505, 691, 957, 1026, 1044, 1041, 1125, 1216]
def m_pmIi : List Nat := [89, 255, 510, 81, 816]
def m_coi : List Nat := [127, 484, 798, 539, 628, 601, 133, 489, 672, 561, 573, 569, 632, 660, 664, 512, 237, 349, 464, 404, 416, 420, 424, 432, 448, 452, 456, 436, 412, 428, 408, 257, 697, 701, 705, 708, 723, 712, 716, 752, 756, 91, 793, 472, 498, 624, 597, 609, 354, 397, 440, 460, 551, 444, 543, 547, 565, 577, 554, 103, 804, 764, 768, 776, 268, 727, 732, 736, 740, 83, 341, 345, 468, 476, 480, 494, 582, 589, 593, 605, 616, 638, 642, 652, 656, 668, 679, 683, 687, 744, 748, 760, 780, 784, 789, 809, 813, 501, 504, 619, 507, 690, 693, 557, 818, 959, 1021, 1040, 1046, 1028, 1127, 956, 972, 992, 976, 1004, 1000, 996, 988, 984, 980, 1013, 1009, 968, 964, 1017, 1025, 1070, 1066, 1078, 1062, 1074, 1058, 1050, 1054, 1043, 1032, 1036, 1082, 1087, 1116, 1095, 1091, 1103, 1099, 1112, 1107, 1120, 1124, 1131, 1135, 1139, 1143, 1147, 1163, 1167, 1171, 1159, 1175, 1155, 1151, 1183, 1179, 1191, 1187, 1203, 1218, 1207, 1199, 1215, 1211, 1226, 1222, 1195, 1230, 1234, 1238, 1242, 1246, 645, 400, 0]
def m_ini : List Nat := [68, 68, 68, 68, 68, 68, 69, 69, 69, 69, 69, 69, 69, 69, 69, 76, 70, 70, 70, 70, 70, 70, 70, 70, 70, 70, 70, 70, 70, 70, 70, 71, 71, 71, 71, 71, 71, 71, 71, 71, 71, 66, 66, 66, 66, 66, 66, 66, 74, 74, 74, 74, 74, 74, 74, 74, 74, 74, 74, 67, 67, 67, 67, 67, 72, 72, 72, 72, 72, 65, 65, 65, 65, 65, 65, 65, 65, 65, 65, 65, 65, 65, 65, 65, 65, 65, 65, 65, 65, 65, 65, 65, 65, 65, 65, 65, 65, 65, 65, 65, 65, 65, 65, 65, 73, 73, 73, 73, 73, 73, 73, 73, 73, 73, 73, 73, 73, 73, 73, 73, 73, 73, 73, 73, 73, 73, 73, 73, 73, 73, 73, 73, 73, 73, 73, 73, 73, 73, 73, 73, 73, 73, 73, 73, 73, 73, 73, 73, 73, 73, 73, 73, 73, 73, 73, 73, 73, 73, 73, 73, 73, 73, 73, 73, 73, 73, 73, 73, 73, 73, 73, 73, 73, 73, 73, 73, 73, 73, 73, 77, 75, 64]
def m_imi : List Nat := [126, 482, 796, 537, 626, 599, 132, 487, 670, 559, 571, 567, 630, 658, 662, 511, 236, 347, 463, 403, 415, 419, 423, 431, 447, 451, 455, 435, 411, 427, 407, 256, 695, 699, 703, 0, 722, 711, 715, 750, 755, 90, 791, 470, 496, 622, 595, 607, 353, 395, 438, 458, 549, 442, 541, 546, 563, 576, 0, 102, 802, 762, 767, 775, 267, 725, 730, 735, 739, 82, 339, 343, 466, 474, 478, 492, 580, 587, 591, 603, 614, 636, 640, 650, 654, 666, 677, 681, 685, 742, 746, 758, 778, 782, 787, 807, 811, 0, 0, 0, 0, 0, 0, 0, 817, 0, 1020, 1039, 0, 0, 0, 954, 971, 991, 975, 1003, 999, 995, 987, 983, 979, 1012, 1008, 967, 962, 1015, 1023, 1069, 1065, 1077, 1061, 1073, 1057, 1049, 1053, 0, 1030, 1034, 1080, 1085, 1115, 1094, 1089, 1102, 1097, 1111, 1105, 1118, 1122, 1129, 1133, 1137, 1141, 1145, 1162, 1166, 1170, 1158, 1174, 1154, 1149, 1182, 1177, 1190, 1185, 1202, 0, 1206, 1198, 1214, 1210, 1225, 1221, 1193, 1228, 1232, 1236, 1240, 1244, 0, 0, 0]
def m_sei : List Nat := [0, 483, 797, 538, 627, 600, 0, 488, 671, 560, 572, 568, 631, 659, 663, 0, 0, 348, 12, 0, 3, 4, 5, 7, 9, 10, 11, 8, 2, 6, 1, 0, 696, 700, 704, 0, 17, 15, 16, 751, 20, 0, 792, 471, 497, 623, 596, 608, 0, 396, 439, 459, 550, 443, 542, 13, 564, 14, 0, 0, 803, 763, 21, 22, 0, 726, 731, 18, 19, 0, 340, 344, 467, 475, 479, 493, 581, 588, 592, 604, 615, 637, 641, 651, 655, 667, 678, 682, 686, 743, 747, 759, 779, 783, 788, 808, 812, 0, 0, 0, 0, 0, 0, 0, 0, 0, 35, 36, 0, 0, 0, 955, 24, 29, 25, 32, 31, 30, 28, 27, 26, 34, 33, 23, 963, 1016, 1024, 42, 41, 44, 40, 43, 39, 37, 38, 0, 1031, 1035, 1081, 1086, 48, 45, 1090, 46, 1098, 47, 1106, 1119, 1123, 1130, 1134, 1138, 1142, 1146, 51, 52, 53, 50, 54, 49, 1150, 55, 1178, 56, 1186, 58, 0, 59, 57, 61, 60, 63, 62, 1194, 1229, 1233, 1237, 1241, 1245, 0, 0, 0]
def m_sti : List Nat := [0, 0, 0, 0, 0, 0, 0, 0, 0, 0, 0, 0, 0, 0, 0, 0, 0, 0, 0, 0, 0, 0, 0, 0, 0, 0, 0, 0, 0, 0, 0, 0, 0, 0, 0, 707, 0, 0, 0, 0, 0, 0, 0, 0, 0, 0, 0, 0, 0, 0, 0, 0, 0, 0, 0, 0, 0, 0, 553, 0, 0, 0, 0, 0, 0, 0, 0, 0, 0, 0, 0, 0, 0, 0, 0, 0, 0, 0, 0, 0, 0, 0, 0, 0, 0, 0, 0, 0, 0, 0, 0, 0, 0, 0, 0, 0, 0, 500, 503, 618, 506, 689, 692, 556, 0, 958, 0, 0, 1045, 1027, 1126, 0, 0, 0, 0, 0, 0, 0, 0, 0, 0, 0, 0, 0, 0, 0, 0, 0, 0, 0, 0, 0, 0, 0, 0, 1042, 0, 0, 0, 0, 0, 0, 0, 0, 0, 0, 0, 0, 0, 0, 0, 0, 0, 0, 0, 0, 0, 0, 0, 0, 0, 0, 0, 0, 0, 0, 1217, 0, 0, 0, 0, 0, 0, 0, 0, 0, 0, 0, 0, 644, 399, 0]
def m_lyi : List (List Nat) := [[159, 161, 163, 165, 167, 169, 171, 173], [136], [527, 529, 531, 533], [244, 246, 248, 250], [301, 303, 305, 307, 309, 311, 313, 315, 317, 319], [204, 206, 208, 210, 212, 214, 216, 218, 220, 222, 224, 226, 228, 230], [375, 377, 379, 381, 383, 385, 387, 389, 391], [112, 114, 116, 118, 120], [276, 278, 280, 282, 284, 286], [327, 329, 331, 333, 335], [863, 865, 867, 869, 871, 873, 875, 877, 879, 881, 883, 885, 887, 889, 891, 893, 895, 897, 899, 901, 903, 905, 907, 909, 911, 913, 915, 917, 919, 921, 923, 925, 927, 929, 931, 933, 935, 937, 939, 941, 943, 945, 947, 949]]
def m_pci : List Nat := [129, 350, 259, 261, 263, 93, 95, 97, 99, 87, 233, 253, 508, 79, 814]
def m_cii : List Nat := [68, 69, 76, 70, 71, 66, 74, 67, 72, 65, 73]
def m_cni : List Nat := [124, 130, 509, 234, 254, 88, 351, 100, 265, 80, 815]
set_option maxRecDepth 100000 in
theorem m_nw_ok : m_nw.all (fun w => decide (w ∈ lw_tbl)) = true := by decide +kernel
set_option maxRecDepth 100000 in
theorem m_pf_ok : (m_pf.zip m_pfi).all (fun (e, i) => m_hi i (.fieldLink (m_cn e.1) e.2.1 (m_fd e.2.2.1 e.2.2.2).1 (m_fd e.2.2.1 e.2.2.2).2.1 (m_fd e.2.2.1 e.2.2.2).2.2.1) && (decide (e.2.2.1 < 11) && decide (e.2.2.2 < (m_cl e.2.2.1).2.2))) = true := by decide +kernel
theorem m_pf_ln : m_pf.length = m_pfi.length := by decide +kernel
set_option maxRecDepth 100000 in
theorem m_pfN_ok : m_pfN.all (fun e => decide (e.2.2.1 < 11) && decide (e.2.2.2 < (m_cl e.2.2.1).2.2)) = true := by decide +kernel
set_option maxRecDepth 100000 in
theorem m_ps_ok : m_ps.all (fun e => m_has (.fieldLink (m_cn e.1) e.2.1 m_host (m_sn e.2.2) "[I")) = true := by decide +kernel
/-- a called method: its code, its class, its arguments -/
def m_calls (i : Nat) : Bool := (m_hi (m_ini.getD i 0) (.initialized (m_y i).cls) && (decide ((m_y i).cls = m_cn (m_oc i)) && (decide ((parseMethodDescriptor (m_y i).desc).map (fun d => d.parameters.length) = some (m_na i)) && (decide (m_nl i ≤ 40) && plainName (m_y i).cls)))) && decide (i < 182 ∧ ¬ i = 181)
def m_callV (i : Nat) : Bool := m_hi (m_imi.getD i 0) (.instanceMethod (m_y i)) && (m_hi (m_sei.getD i 0) (.selects (m_cn (m_oc i)) (m_y i) (m_y i)) && (m_calls i && decide (m_oc i < 11)))
def m_callS (i : Nat) : Bool := m_hi (m_sti.getD i 0) (.static (m_y i)) && m_calls i
def m_inits (i : Nat) : Bool := m_hi (m_imi.getD i 0) (.instanceMethod (m_y i)) && (decide ((m_y i).name = "<init>") && (m_calls i && decide (m_rt i = none)))
set_option maxRecDepth 100000 in
theorem m_po_ok : m_po.all (fun e => m_has (.methodLink (m_cn e.1) e.2 objectInit) && (m_has (.instanceMethod objectInit) && m_has (.code objectInit ⟨#[0xb1]⟩ 1 none))) = true := by decide +kernel
set_option maxRecDepth 100000 in
theorem m_pa_ok : m_pa.all (fun e => m_has (.methodLink (m_cn e.1) e.2 arraycopyName) && (m_has (.native arraycopyName) && (m_has (.static arraycopyName) && m_has (.initialized "java/lang/System")))) = true := by decide +kernel
set_option maxRecDepth 100000 in
theorem m_pc_ok : (m_pc.zip m_pci).all (fun (e, i) => m_hi i (.classLink (m_cn e.1) e.2.1 (m_cl e.2.2).1) && (m_hi (m_cni.getD e.2.2 0) (.instantiable (m_cl e.2.2).1 (m_cl e.2.2).2.2) && (m_hi (m_cii.getD e.2.2 0) (.initialized (m_cl e.2.2).1) && decide (e.2.2 < 11)))) = true := by decide +kernel
set_option maxRecDepth 100000 in
theorem m_pk_ok : m_pk.all (fun e => m_has (.constant (m_cn e.1) e.2.1 (Int32.ofInt e.2.2))) = true := by decide +kernel
set_option maxRecDepth 100000 in
theorem m_pl_ok : m_pl.all (fun e => m_has (.constantLong (m_cn e.1) e.2.1 (Int64.ofInt e.2.2))) = true := by decide +kernel
set_option maxRecDepth 100000 in
theorem m_arr_ok : m_has (.arrayClass .int) = true ∧ m_has (.arrayClass .boolean) = true := by decide +kernel
def m_ao : List String := ["WayBoxes$Text", "WayBoxes$Box", "WayBoxes$Packet", "WayBoxes$Memory", "WayBoxes$Watch"]
set_option maxRecDepth 100000 in
theorem m_ao_ok : m_ao.all (fun C => decide (Cond.arrayOver (.object C) ∈ lw_tbl)) = true := by decide +kernel
/-- a class: its fields are laid as the tables say -/
theorem m_pc_ln : m_pc.length = m_pci.length := by decide +kernel
def m_lays (i : Nat) : Bool := decide ((u_ws (m_cl i).1 (m_cl i).2.1 (m_cl i).2.2).length = (m_lyi.getD i []).length) && ((u_ws (m_cl i).1 (m_cl i).2.1 (m_cl i).2.2).zip (m_lyi.getD i [])).all (fun (w, k) => m_hi k w)
set_option maxRecDepth 100000 in
theorem m_lays_ok : (List.range 11).all m_lays = true := by decide +kernel
theorem m_cl_at {i : Nat} (h : i < 11) : vwCl[i]? = some ((m_cl i).1, (m_cl i).2.1, (m_cl i).2.2) := by
  have : i = 0 ∨ i = 1 ∨ i = 2 ∨ i = 3 ∨ i = 4 ∨ i = 5 ∨ i = 6 ∨ i = 7 ∨ i = 8 ∨ i = 9 ∨ i = 10 := by omega
  rcases this with rfl | rfl | rfl | rfl | rfl | rfl | rfl | rfl | rfl | rfl | rfl <;> rfl
theorem m_ty_ok {i : Nat} (h : i < 11) : ∀ k, k < (m_cl i).2.2 → parseFieldDescriptor ((m_cl i).2.1 k).2.2.1 = some (m_ty i k) := by
  have : i = 0 ∨ i = 1 ∨ i = 2 ∨ i = 3 ∨ i = 4 ∨ i = 5 ∨ i = 6 ∨ i = 7 ∨ i = 8 ∨ i = 9 ∨ i = 10 := by omega
  rcases this with rfl | rfl | rfl | rfl | rfl | rfl | rfl | rfl | rfl | rfl | rfl
  · exact tyX0_ok
  · exact tyX1_ok
  · exact tyX2_ok
  · exact tyX3_ok
  · exact tyX4_ok
  · exact tyX5_ok
  · exact tyX6_ok
  · exact tyX7_ok
  · exact tyX8_ok
  · exact tyX9_ok
  · exact tyX10_ok
theorem m_nm_ok {i : Nat} (h : i < 11) : ∀ a, a < (m_cl i).2.2 → ∀ b, b < (m_cl i).2.2 → a ≠ b → ((m_cl i).2.1 a).2.1 ≠ ((m_cl i).2.1 b).2.1 := by
  have : i = 0 ∨ i = 1 ∨ i = 2 ∨ i = 3 ∨ i = 4 ∨ i = 5 ∨ i = 6 ∨ i = 7 ∨ i = 8 ∨ i = 9 ∨ i = 10 := by omega
  rcases this with rfl | rfl | rfl | rfl | rfl | rfl | rfl | rfl | rfl | rfl | rfl
  · exact nmX0
  · exact nmX1
  · exact nmX2
  · exact nmX3
  · exact nmX4
  · exact nmX5
  · exact nmX6
  · exact nmX7
  · exact nmX8
  · exact nmX9
  · exact nmX10
/-- a list's elements beside their places -/
theorem m_zip {α : Type} {l : List α} {is : List Nat} {f : α × Nat → Bool} (hl : l.length = is.length) (h : (l.zip is).all f = true) {x : α} (hx : x ∈ l) : ∃ i, f (x, i) = true := by
  obtain ⟨k, hk⟩ := List.getElem?_of_mem hx
  have h1 : k < is.length := hl ▸ (List.getElem?_eq_some_iff.mp hk).1
  refine ⟨is[k], List.all_eq_true.mp h _ (List.mem_of_getElem? (i := k) ?_)⟩
  rw [List.getElem?_zip_eq_some]
  exact ⟨hk, List.getElem?_eq_getElem h1⟩
theorem m_in_ok {i : Nat} (h : i < 11) : ∀ w ∈ u_ws (m_cl i).1 (m_cl i).2.1 (m_cl i).2.2, w ∈ lw_good := by
  intro w hw
  have h1 := List.all_eq_true.mp m_lays_ok i (List.mem_range.mpr h)
  simp only [m_lays, Bool.and_eq_true, decide_eq_true_eq] at h1
  obtain ⟨k, hk⟩ := m_zip h1.1 h1.2 hw
  exact m_hi_in hk
end
section
set_option maxRecDepth 100000 in
theorem m_pmV_lk : (m_pmV.zip m_pmVi).all (fun (e, i) => m_hi i (.methodLink (m_cn e.1) e.2.1 (m_y e.2.2))) = true := by decide +kernel
theorem m_pmV_ln : m_pmV.length = m_pmVi.length := by decide +kernel
set_option maxRecDepth 100000 in
theorem m_pmS_lk : (m_pmS.zip m_pmSi).all (fun (e, i) => m_hi i (.methodLink (m_cn e.1) e.2.1 (m_y e.2.2))) = true := by decide +kernel
theorem m_pmS_ln : m_pmS.length = m_pmSi.length := by decide +kernel
set_option maxRecDepth 100000 in
theorem m_pmI_lk : (m_pmI.zip m_pmIi).all (fun (e, i) => m_hi i (.methodLink (m_cn e.1) e.2.1 (m_y e.2.2))) = true := by decide +kernel
theorem m_pmI_ln : m_pmI.length = m_pmIi.length := by decide +kernel
def m_qV : List Nat := [1, 2, 3, 4, 5, 7, 8, 9, 10, 11, 12, 13, 14, 17, 18, 19, 20, 21, 22, 23, 24, 25, 26, 27, 28, 29, 30, 32, 33, 34, 36, 37, 38, 39, 40, 42, 43, 44, 45, 46, 47, 49, 50, 51, 52, 53, 54, 55, 56, 57, 60, 61, 62, 63, 65, 66, 67, 68, 70, 71, 72, 73, 74, 75, 76, 77, 78, 79, 80, 81, 82, 83, 84, 85, 86, 87, 88, 89, 90, 91, 92, 93, 94, 95, 96, 106, 107, 111, 112, 113, 114, 115, 116, 117, 118, 119, 120, 121, 122, 123, 124, 125, 126, 127, 128, 129, 130, 131, 132, 133, 134, 136, 137, 138, 139, 140, 141, 142, 143, 144, 145, 146, 147, 148, 149, 150, 151, 152, 153, 154, 155, 156, 157, 158, 159, 160, 161, 162, 163, 164, 165, 167, 168, 169, 170, 171, 172, 173, 174, 175, 176, 177, 178]
set_option maxRecDepth 100000 in
theorem m_qV_0 : ([1, 2, 3, 4, 5, 7, 8, 9, 10, 11, 12, 13, 14, 17, 18, 19, 20, 21, 22, 23] : List Nat).all m_callV = true := by decide +kernel
set_option maxRecDepth 100000 in
theorem m_qV_20 : ([24, 25, 26, 27, 28, 29, 30, 32, 33, 34, 36, 37, 38, 39, 40, 42, 43, 44, 45, 46] : List Nat).all m_callV = true := by decide +kernel
set_option maxRecDepth 100000 in
theorem m_qV_40 : ([47, 49, 50, 51, 52, 53, 54, 55, 56, 57, 60, 61, 62, 63, 65, 66, 67, 68, 70, 71] : List Nat).all m_callV = true := by decide +kernel
set_option maxRecDepth 100000 in
theorem m_qV_60 : ([72, 73, 74, 75, 76, 77, 78, 79, 80, 81, 82, 83, 84, 85, 86, 87, 88, 89, 90, 91] : List Nat).all m_callV = true := by decide +kernel
set_option maxRecDepth 100000 in
theorem m_qV_80 : ([92, 93, 94, 95, 96, 106, 107, 111, 112, 113, 114, 115, 116, 117, 118, 119, 120, 121, 122, 123] : List Nat).all m_callV = true := by decide +kernel
set_option maxRecDepth 100000 in
theorem m_qV_100 : ([124, 125, 126, 127, 128, 129, 130, 131, 132, 133, 134, 136, 137, 138, 139, 140, 141, 142, 143, 144] : List Nat).all m_callV = true := by decide +kernel
set_option maxRecDepth 100000 in
theorem m_qV_120 : ([145, 146, 147, 148, 149, 150, 151, 152, 153, 154, 155, 156, 157, 158, 159, 160, 161, 162, 163, 164] : List Nat).all m_callV = true := by decide +kernel
set_option maxRecDepth 100000 in
theorem m_qV_140 : ([165, 167, 168, 169, 170, 171, 172, 173, 174, 175, 176, 177, 178] : List Nat).all m_callV = true := by decide +kernel
theorem m_qV_ok : m_qV.all m_callV = true := by
  show (([1, 2, 3, 4, 5, 7, 8, 9, 10, 11, 12, 13, 14, 17, 18, 19, 20, 21, 22, 23] : List Nat) ++ ([24, 25, 26, 27, 28, 29, 30, 32, 33, 34, 36, 37, 38, 39, 40, 42, 43, 44, 45, 46] : List Nat) ++ ([47, 49, 50, 51, 52, 53, 54, 55, 56, 57, 60, 61, 62, 63, 65, 66, 67, 68, 70, 71] : List Nat) ++ ([72, 73, 74, 75, 76, 77, 78, 79, 80, 81, 82, 83, 84, 85, 86, 87, 88, 89, 90, 91] : List Nat) ++ ([92, 93, 94, 95, 96, 106, 107, 111, 112, 113, 114, 115, 116, 117, 118, 119, 120, 121, 122, 123] : List Nat) ++ ([124, 125, 126, 127, 128, 129, 130, 131, 132, 133, 134, 136, 137, 138, 139, 140, 141, 142, 143, 144] : List Nat) ++ ([145, 146, 147, 148, 149, 150, 151, 152, 153, 154, 155, 156, 157, 158, 159, 160, 161, 162, 163, 164] : List Nat) ++ ([165, 167, 168, 169, 170, 171, 172, 173, 174, 175, 176, 177, 178] : List Nat)).all m_callV = true
  rw [List.all_append, List.all_append, List.all_append, List.all_append, List.all_append, List.all_append, List.all_append]
  simp only [m_qV_0, m_qV_20, m_qV_40, m_qV_60, m_qV_80, m_qV_100, m_qV_120, m_qV_140, Bool.and_self]
theorem m_pmV_q : (m_pmV).all (fun e => m_qV.contains e.2.2) = true := by decide +kernel
def m_qS : List Nat := [35, 58, 97, 98, 99, 100, 101, 102, 103, 105, 108, 109, 110, 135, 166, 179, 180]
set_option maxRecDepth 100000 in
theorem m_qS_0 : ([35, 58, 97, 98, 99, 100, 101, 102, 103, 105, 108, 109, 110, 135, 166, 179, 180] : List Nat).all m_callS = true := by decide +kernel
theorem m_qS_ok : m_qS.all m_callS = true := m_qS_0
theorem m_pmS_q : (m_pmS ++ m_pmSN).all (fun e => m_qS.contains e.2.2) = true := by decide +kernel
def m_qI : List Nat := [0, 6, 15, 16, 31, 41, 48, 59, 64, 69, 104]
set_option maxRecDepth 100000 in
theorem m_qI_0 : ([0, 6, 15, 16, 31, 41, 48, 59, 64, 69, 104] : List Nat).all m_inits = true := by decide +kernel
theorem m_qI_ok : m_qI.all m_inits = true := m_qI_0
theorem m_pmI_q : (m_pmI ++ m_pmIN).all (fun e => m_qI.contains e.2.2) = true := by decide +kernel
end
section
/-! the code of each method is what the tables say -/
set_option maxRecDepth 100000 in
theorem m_co_0 : ∀ e ∈ ([(0, 127), (1, 484), (2, 798), (3, 539), (4, 628), (5, 601), (6, 133), (7, 489), (8, 672), (9, 561)] : List (Nat × Nat)), m_nth lw_tbl e.2 = some (.code (m_y e.1) (m_b e.1) (m_nl e.1) (m_rt e.1)) := List.forall_mem_cons.mpr ⟨rfl, List.forall_mem_cons.mpr ⟨rfl, List.forall_mem_cons.mpr ⟨rfl, List.forall_mem_cons.mpr ⟨rfl, List.forall_mem_cons.mpr ⟨rfl, List.forall_mem_cons.mpr ⟨rfl, List.forall_mem_cons.mpr ⟨rfl, List.forall_mem_cons.mpr ⟨rfl, List.forall_mem_cons.mpr ⟨rfl, List.forall_mem_cons.mpr ⟨rfl, fun _ h => absurd h List.not_mem_nil⟩⟩⟩⟩⟩⟩⟩⟩⟩⟩
set_option maxRecDepth 100000 in
theorem m_co_10 : ∀ e ∈ ([(10, 573), (11, 569), (12, 632), (13, 660), (14, 664), (15, 512), (16, 237), (17, 349), (18, 464), (19, 404)] : List (Nat × Nat)), m_nth lw_tbl e.2 = some (.code (m_y e.1) (m_b e.1) (m_nl e.1) (m_rt e.1)) := List.forall_mem_cons.mpr ⟨rfl, List.forall_mem_cons.mpr ⟨rfl, List.forall_mem_cons.mpr ⟨rfl, List.forall_mem_cons.mpr ⟨rfl, List.forall_mem_cons.mpr ⟨rfl, List.forall_mem_cons.mpr ⟨rfl, List.forall_mem_cons.mpr ⟨rfl, List.forall_mem_cons.mpr ⟨rfl, List.forall_mem_cons.mpr ⟨rfl, List.forall_mem_cons.mpr ⟨rfl, fun _ h => absurd h List.not_mem_nil⟩⟩⟩⟩⟩⟩⟩⟩⟩⟩
set_option maxRecDepth 100000 in
theorem m_co_20 : ∀ e ∈ ([(20, 416), (21, 420), (22, 424), (23, 432), (24, 448), (25, 452), (26, 456), (27, 436), (28, 412), (29, 428)] : List (Nat × Nat)), m_nth lw_tbl e.2 = some (.code (m_y e.1) (m_b e.1) (m_nl e.1) (m_rt e.1)) := List.forall_mem_cons.mpr ⟨rfl, List.forall_mem_cons.mpr ⟨rfl, List.forall_mem_cons.mpr ⟨rfl, List.forall_mem_cons.mpr ⟨rfl, List.forall_mem_cons.mpr ⟨rfl, List.forall_mem_cons.mpr ⟨rfl, List.forall_mem_cons.mpr ⟨rfl, List.forall_mem_cons.mpr ⟨rfl, List.forall_mem_cons.mpr ⟨rfl, List.forall_mem_cons.mpr ⟨rfl, fun _ h => absurd h List.not_mem_nil⟩⟩⟩⟩⟩⟩⟩⟩⟩⟩
set_option maxRecDepth 100000 in
theorem m_co_30 : ∀ e ∈ ([(30, 408), (31, 257), (32, 697), (33, 701), (34, 705), (35, 708), (36, 723), (37, 712), (38, 716), (39, 752)] : List (Nat × Nat)), m_nth lw_tbl e.2 = some (.code (m_y e.1) (m_b e.1) (m_nl e.1) (m_rt e.1)) := List.forall_mem_cons.mpr ⟨rfl, List.forall_mem_cons.mpr ⟨rfl, List.forall_mem_cons.mpr ⟨rfl, List.forall_mem_cons.mpr ⟨rfl, List.forall_mem_cons.mpr ⟨rfl, List.forall_mem_cons.mpr ⟨rfl, List.forall_mem_cons.mpr ⟨rfl, List.forall_mem_cons.mpr ⟨rfl, List.forall_mem_cons.mpr ⟨rfl, List.forall_mem_cons.mpr ⟨rfl, fun _ h => absurd h List.not_mem_nil⟩⟩⟩⟩⟩⟩⟩⟩⟩⟩
set_option maxRecDepth 100000 in
theorem m_co_40 : ∀ e ∈ ([(40, 756), (41, 91), (42, 793), (43, 472), (44, 498), (45, 624), (46, 597), (47, 609), (48, 354), (49, 397)] : List (Nat × Nat)), m_nth lw_tbl e.2 = some (.code (m_y e.1) (m_b e.1) (m_nl e.1) (m_rt e.1)) := List.forall_mem_cons.mpr ⟨rfl, List.forall_mem_cons.mpr ⟨rfl, List.forall_mem_cons.mpr ⟨rfl, List.forall_mem_cons.mpr ⟨rfl, List.forall_mem_cons.mpr ⟨rfl, List.forall_mem_cons.mpr ⟨rfl, List.forall_mem_cons.mpr ⟨rfl, List.forall_mem_cons.mpr ⟨rfl, List.forall_mem_cons.mpr ⟨rfl, List.forall_mem_cons.mpr ⟨rfl, fun _ h => absurd h List.not_mem_nil⟩⟩⟩⟩⟩⟩⟩⟩⟩⟩
set_option maxRecDepth 100000 in
theorem m_co_50 : ∀ e ∈ ([(50, 440), (51, 460), (52, 551), (53, 444), (54, 543), (55, 547), (56, 565), (57, 577), (58, 554), (59, 103)] : List (Nat × Nat)), m_nth lw_tbl e.2 = some (.code (m_y e.1) (m_b e.1) (m_nl e.1) (m_rt e.1)) := List.forall_mem_cons.mpr ⟨rfl, List.forall_mem_cons.mpr ⟨rfl, List.forall_mem_cons.mpr ⟨rfl, List.forall_mem_cons.mpr ⟨rfl, List.forall_mem_cons.mpr ⟨rfl, List.forall_mem_cons.mpr ⟨rfl, List.forall_mem_cons.mpr ⟨rfl, List.forall_mem_cons.mpr ⟨rfl, List.forall_mem_cons.mpr ⟨rfl, List.forall_mem_cons.mpr ⟨rfl, fun _ h => absurd h List.not_mem_nil⟩⟩⟩⟩⟩⟩⟩⟩⟩⟩
set_option maxRecDepth 100000 in
theorem m_co_60 : ∀ e ∈ ([(60, 804), (61, 764), (62, 768), (63, 776), (64, 268), (65, 727), (66, 732), (67, 736), (68, 740), (69, 83)] : List (Nat × Nat)), m_nth lw_tbl e.2 = some (.code (m_y e.1) (m_b e.1) (m_nl e.1) (m_rt e.1)) := List.forall_mem_cons.mpr ⟨rfl, List.forall_mem_cons.mpr ⟨rfl, List.forall_mem_cons.mpr ⟨rfl, List.forall_mem_cons.mpr ⟨rfl, List.forall_mem_cons.mpr ⟨rfl, List.forall_mem_cons.mpr ⟨rfl, List.forall_mem_cons.mpr ⟨rfl, List.forall_mem_cons.mpr ⟨rfl, List.forall_mem_cons.mpr ⟨rfl, List.forall_mem_cons.mpr ⟨rfl, fun _ h => absurd h List.not_mem_nil⟩⟩⟩⟩⟩⟩⟩⟩⟩⟩
set_option maxRecDepth 100000 in
theorem m_co_70 : ∀ e ∈ ([(70, 341), (71, 345), (72, 468), (73, 476), (74, 480), (75, 494), (76, 582), (77, 589), (78, 593), (79, 605)] : List (Nat × Nat)), m_nth lw_tbl e.2 = some (.code (m_y e.1) (m_b e.1) (m_nl e.1) (m_rt e.1)) := List.forall_mem_cons.mpr ⟨rfl, List.forall_mem_cons.mpr ⟨rfl, List.forall_mem_cons.mpr ⟨rfl, List.forall_mem_cons.mpr ⟨rfl, List.forall_mem_cons.mpr ⟨rfl, List.forall_mem_cons.mpr ⟨rfl, List.forall_mem_cons.mpr ⟨rfl, List.forall_mem_cons.mpr ⟨rfl, List.forall_mem_cons.mpr ⟨rfl, List.forall_mem_cons.mpr ⟨rfl, fun _ h => absurd h List.not_mem_nil⟩⟩⟩⟩⟩⟩⟩⟩⟩⟩
set_option maxRecDepth 100000 in
theorem m_co_80 : ∀ e ∈ ([(80, 616), (81, 638), (82, 642), (83, 652), (84, 656), (85, 668), (86, 679), (87, 683), (88, 687), (89, 744)] : List (Nat × Nat)), m_nth lw_tbl e.2 = some (.code (m_y e.1) (m_b e.1) (m_nl e.1) (m_rt e.1)) := List.forall_mem_cons.mpr ⟨rfl, List.forall_mem_cons.mpr ⟨rfl, List.forall_mem_cons.mpr ⟨rfl, List.forall_mem_cons.mpr ⟨rfl, List.forall_mem_cons.mpr ⟨rfl, List.forall_mem_cons.mpr ⟨rfl, List.forall_mem_cons.mpr ⟨rfl, List.forall_mem_cons.mpr ⟨rfl, List.forall_mem_cons.mpr ⟨rfl, List.forall_mem_cons.mpr ⟨rfl, fun _ h => absurd h List.not_mem_nil⟩⟩⟩⟩⟩⟩⟩⟩⟩⟩
set_option maxRecDepth 100000 in
theorem m_co_90 : ∀ e ∈ ([(90, 748), (91, 760), (92, 780), (93, 784), (94, 789), (95, 809), (96, 813), (97, 501), (98, 504), (99, 619)] : List (Nat × Nat)), m_nth lw_tbl e.2 = some (.code (m_y e.1) (m_b e.1) (m_nl e.1) (m_rt e.1)) := List.forall_mem_cons.mpr ⟨rfl, List.forall_mem_cons.mpr ⟨rfl, List.forall_mem_cons.mpr ⟨rfl, List.forall_mem_cons.mpr ⟨rfl, List.forall_mem_cons.mpr ⟨rfl, List.forall_mem_cons.mpr ⟨rfl, List.forall_mem_cons.mpr ⟨rfl, List.forall_mem_cons.mpr ⟨rfl, List.forall_mem_cons.mpr ⟨rfl, List.forall_mem_cons.mpr ⟨rfl, fun _ h => absurd h List.not_mem_nil⟩⟩⟩⟩⟩⟩⟩⟩⟩⟩
set_option maxRecDepth 100000 in
theorem m_co_100 : ∀ e ∈ ([(100, 507), (101, 690), (102, 693), (103, 557), (104, 818), (105, 959), (106, 1021), (107, 1040), (108, 1046), (109, 1028)] : List (Nat × Nat)), m_nth lw_tbl e.2 = some (.code (m_y e.1) (m_b e.1) (m_nl e.1) (m_rt e.1)) := List.forall_mem_cons.mpr ⟨rfl, List.forall_mem_cons.mpr ⟨rfl, List.forall_mem_cons.mpr ⟨rfl, List.forall_mem_cons.mpr ⟨rfl, List.forall_mem_cons.mpr ⟨rfl, List.forall_mem_cons.mpr ⟨rfl, List.forall_mem_cons.mpr ⟨rfl, List.forall_mem_cons.mpr ⟨rfl, List.forall_mem_cons.mpr ⟨rfl, List.forall_mem_cons.mpr ⟨rfl, fun _ h => absurd h List.not_mem_nil⟩⟩⟩⟩⟩⟩⟩⟩⟩⟩
set_option maxRecDepth 100000 in
theorem m_co_110 : ∀ e ∈ ([(110, 1127), (111, 956), (112, 972), (113, 992), (114, 976), (115, 1004), (116, 1000), (117, 996), (118, 988), (119, 984)] : List (Nat × Nat)), m_nth lw_tbl e.2 = some (.code (m_y e.1) (m_b e.1) (m_nl e.1) (m_rt e.1)) := List.forall_mem_cons.mpr ⟨rfl, List.forall_mem_cons.mpr ⟨rfl, List.forall_mem_cons.mpr ⟨rfl, List.forall_mem_cons.mpr ⟨rfl, List.forall_mem_cons.mpr ⟨rfl, List.forall_mem_cons.mpr ⟨rfl, List.forall_mem_cons.mpr ⟨rfl, List.forall_mem_cons.mpr ⟨rfl, List.forall_mem_cons.mpr ⟨rfl, List.forall_mem_cons.mpr ⟨rfl, fun _ h => absurd h List.not_mem_nil⟩⟩⟩⟩⟩⟩⟩⟩⟩⟩
set_option maxRecDepth 100000 in
theorem m_co_120 : ∀ e ∈ ([(120, 980), (121, 1013), (122, 1009), (123, 968), (124, 964), (125, 1017), (126, 1025), (127, 1070), (128, 1066), (129, 1078)] : List (Nat × Nat)), m_nth lw_tbl e.2 = some (.code (m_y e.1) (m_b e.1) (m_nl e.1) (m_rt e.1)) := List.forall_mem_cons.mpr ⟨rfl, List.forall_mem_cons.mpr ⟨rfl, List.forall_mem_cons.mpr ⟨rfl, List.forall_mem_cons.mpr ⟨rfl, List.forall_mem_cons.mpr ⟨rfl, List.forall_mem_cons.mpr ⟨rfl, List.forall_mem_cons.mpr ⟨rfl, List.forall_mem_cons.mpr ⟨rfl, List.forall_mem_cons.mpr ⟨rfl, List.forall_mem_cons.mpr ⟨rfl, fun _ h => absurd h List.not_mem_nil⟩⟩⟩⟩⟩⟩⟩⟩⟩⟩
set_option maxRecDepth 100000 in
theorem m_co_130 : ∀ e ∈ ([(130, 1062), (131, 1074), (132, 1058), (133, 1050), (134, 1054), (135, 1043), (136, 1032), (137, 1036), (138, 1082), (139, 1087)] : List (Nat × Nat)), m_nth lw_tbl e.2 = some (.code (m_y e.1) (m_b e.1) (m_nl e.1) (m_rt e.1)) := List.forall_mem_cons.mpr ⟨rfl, List.forall_mem_cons.mpr ⟨rfl, List.forall_mem_cons.mpr ⟨rfl, List.forall_mem_cons.mpr ⟨rfl, List.forall_mem_cons.mpr ⟨rfl, List.forall_mem_cons.mpr ⟨rfl, List.forall_mem_cons.mpr ⟨rfl, List.forall_mem_cons.mpr ⟨rfl, List.forall_mem_cons.mpr ⟨rfl, List.forall_mem_cons.mpr ⟨rfl, fun _ h => absurd h List.not_mem_nil⟩⟩⟩⟩⟩⟩⟩⟩⟩⟩
set_option maxRecDepth 100000 in
theorem m_co_140 : ∀ e ∈ ([(140, 1116), (141, 1095), (142, 1091), (143, 1103), (144, 1099), (145, 1112), (146, 1107), (147, 1120), (148, 1124), (149, 1131)] : List (Nat × Nat)), m_nth lw_tbl e.2 = some (.code (m_y e.1) (m_b e.1) (m_nl e.1) (m_rt e.1)) := List.forall_mem_cons.mpr ⟨rfl, List.forall_mem_cons.mpr ⟨rfl, List.forall_mem_cons.mpr ⟨rfl, List.forall_mem_cons.mpr ⟨rfl, List.forall_mem_cons.mpr ⟨rfl, List.forall_mem_cons.mpr ⟨rfl, List.forall_mem_cons.mpr ⟨rfl, List.forall_mem_cons.mpr ⟨rfl, List.forall_mem_cons.mpr ⟨rfl, List.forall_mem_cons.mpr ⟨rfl, fun _ h => absurd h List.not_mem_nil⟩⟩⟩⟩⟩⟩⟩⟩⟩⟩
set_option maxRecDepth 100000 in
theorem m_co_150 : ∀ e ∈ ([(150, 1135), (151, 1139), (152, 1143), (153, 1147), (154, 1163), (155, 1167), (156, 1171), (157, 1159), (158, 1175), (159, 1155)] : List (Nat × Nat)), m_nth lw_tbl e.2 = some (.code (m_y e.1) (m_b e.1) (m_nl e.1) (m_rt e.1)) := List.forall_mem_cons.mpr ⟨rfl, List.forall_mem_cons.mpr ⟨rfl, List.forall_mem_cons.mpr ⟨rfl, List.forall_mem_cons.mpr ⟨rfl, List.forall_mem_cons.mpr ⟨rfl, List.forall_mem_cons.mpr ⟨rfl, List.forall_mem_cons.mpr ⟨rfl, List.forall_mem_cons.mpr ⟨rfl, List.forall_mem_cons.mpr ⟨rfl, List.forall_mem_cons.mpr ⟨rfl, fun _ h => absurd h List.not_mem_nil⟩⟩⟩⟩⟩⟩⟩⟩⟩⟩
set_option maxRecDepth 100000 in
theorem m_co_160 : ∀ e ∈ ([(160, 1151), (161, 1183), (162, 1179), (163, 1191), (164, 1187), (165, 1203), (166, 1218), (167, 1207), (168, 1199), (169, 1215)] : List (Nat × Nat)), m_nth lw_tbl e.2 = some (.code (m_y e.1) (m_b e.1) (m_nl e.1) (m_rt e.1)) := List.forall_mem_cons.mpr ⟨rfl, List.forall_mem_cons.mpr ⟨rfl, List.forall_mem_cons.mpr ⟨rfl, List.forall_mem_cons.mpr ⟨rfl, List.forall_mem_cons.mpr ⟨rfl, List.forall_mem_cons.mpr ⟨rfl, List.forall_mem_cons.mpr ⟨rfl, List.forall_mem_cons.mpr ⟨rfl, List.forall_mem_cons.mpr ⟨rfl, List.forall_mem_cons.mpr ⟨rfl, fun _ h => absurd h List.not_mem_nil⟩⟩⟩⟩⟩⟩⟩⟩⟩⟩
set_option maxRecDepth 100000 in
theorem m_co_170 : ∀ e ∈ ([(170, 1211), (171, 1226), (172, 1222), (173, 1195), (174, 1230), (175, 1234), (176, 1238), (177, 1242), (178, 1246), (179, 645)] : List (Nat × Nat)), m_nth lw_tbl e.2 = some (.code (m_y e.1) (m_b e.1) (m_nl e.1) (m_rt e.1)) := List.forall_mem_cons.mpr ⟨rfl, List.forall_mem_cons.mpr ⟨rfl, List.forall_mem_cons.mpr ⟨rfl, List.forall_mem_cons.mpr ⟨rfl, List.forall_mem_cons.mpr ⟨rfl, List.forall_mem_cons.mpr ⟨rfl, List.forall_mem_cons.mpr ⟨rfl, List.forall_mem_cons.mpr ⟨rfl, List.forall_mem_cons.mpr ⟨rfl, List.forall_mem_cons.mpr ⟨rfl, fun _ h => absurd h List.not_mem_nil⟩⟩⟩⟩⟩⟩⟩⟩⟩⟩
set_option maxRecDepth 100000 in
theorem m_co_180 : ∀ e ∈ ([(180, 400)] : List (Nat × Nat)), m_nth lw_tbl e.2 = some (.code (m_y e.1) (m_b e.1) (m_nl e.1) (m_rt e.1)) := List.forall_mem_cons.mpr ⟨rfl, fun _ h => absurd h List.not_mem_nil⟩
end
section
/-! each instruction of the tables is what the bytes say, and its numbers are what the pools say -/
def m_len : Instr → Nat
  | .bipush _ => 2
  | .sipush _ => 3
  | .iload _ => 2
  | .lload _ => 2
  | .aload _ => 2
  | _ => 1
def m_fc : FieldType → Nat
  | .int => 0
  | .boolean => 1
  | .object _ => 2
  | .array _ => 2
  | _ => 9
def m_okI (i pc : Nat) (en : m_E) : Bool := match en with
  | (ins, len, a, b) => match ins with
  | .tableswitch _ _ _ _ => true
  | .lookupswitch _ ps => (ps.toList.zip (ps.toList.drop 1)).all (fun (a, next) => a.1 < next.1)
  | .istore_n k => decide (len = 1 ∧ k.val < m_nl i)
  | .istore k => decide (len = 2 ∧ k < m_nl i)
  | .astore_n k => decide (len = 1 ∧ k.val < m_nl i)
  | .astore k => decide (len = 2 ∧ k < m_nl i)
  | .iinc k _ => decide (len = 3 ∧ k < m_nl i)
  | .ifCond _ off => decide (len = 3 ∧ (pc : Int) + off = ((a.toNat : Nat) : Int))
  | .if_icmp _ off => decide (len = 3 ∧ (pc : Int) + off = ((a.toNat : Nat) : Int))
  | .ifnull off => decide (len = 3 ∧ (pc : Int) + off = ((a.toNat : Nat) : Int))
  | .ifnonnull off => decide (len = 3 ∧ (pc : Int) + off = ((a.toNat : Nat) : Int))
  | .goto off => decide (len = 3 ∧ (pc : Int) + off = ((a.toNat : Nat) : Int))
  | .ldc k => decide (len = 2 ∧ (m_oc i, k, a) ∈ m_pk)
  | .ldc_w k => decide (len = 3 ∧ (m_oc i, k, a) ∈ m_pk)
  | .ldc2_w k => decide (len = 3 ∧ (m_oc i, k, a) ∈ m_pl)
  | .getfield k => decide (len = 3 ∧ ((m_oc i, k, b, a.toNat % 100) ∈ m_pf ∨ (m_oc i, k, b, a.toNat % 100) ∈ m_pfN))
  | .putfield k => decide (len = 3 ∧ (m_oc i, k, b, a.toNat % 100) ∈ m_pf ∧ m_fc (m_ty b (a.toNat % 100)) = a.toNat / 100) && (!(m_fd b (a.toNat % 100)).2.2.2 || decide ((m_y i).name = "<init>" ∧ (m_fd b (a.toNat % 100)).1 = m_cn (m_oc i)))
  | .getstatic k => decide (len = 3 ∧ ((m_oc i, k, b) ∈ m_ps ∨ (m_oc i, k, b) ∈ m_psN))
  | .new k => decide (len = 3 ∧ (m_oc i, k, b) ∈ m_pc)
  | .newarray t => decide (len = 2 ∧ ((t = .int ∧ b = 20) ∨ (t = .boolean ∧ b = 21)))
  | .anewarray k => decide (len = 3 ∧ (m_oc i, k, m_cmp b) ∈ m_pc ∧ 22 ≤ b ∧ b ≤ 26)
  | .invokevirtual k => decide (len = 3 ∧ (m_oc i, k, a.toNat) ∈ m_pmV ∧ b = m_na a.toNat)
  | .invokestatic k => if a.toNat = 9999 then decide (len = 3 ∧ (m_oc i, k) ∈ m_pa) else decide (len = 3 ∧ ((m_oc i, k, a.toNat) ∈ m_pmS ∨ (m_oc i, k, a.toNat) ∈ m_pmSN) ∧ b = m_na a.toNat)
  | .invokespecial k => if a.toNat = 9998 then decide (len = 3 ∧ (m_oc i, k) ∈ m_po) else decide (len = 3 ∧ ((m_oc i, k, a.toNat) ∈ m_pmI ∨ (m_oc i, k, a.toNat) ∈ m_pmIN) ∧ b = m_na a.toNat)
  | .ireturn => decide (len = 1 ∧ ((m_rt i = some .int ∧ b = 0) ∨ (m_rt i = some .boolean ∧ b = 1)))
  | .areturn => (match m_rt i with
    | some (.object _) => decide (len = 1)
    | _ => false)
  | .return_ => decide (len = 1 ∧ m_rt i = none)
  | .aconst_null | .iconst _ | .bipush _ | .sipush _ | .iload_n _ | .iload _ | .lload_n _ | .lload _ | .aload_n _ | .aload _ | .iadd | .isub | .imul | .idiv | .irem | .ineg | .iand | .ior | .ixor | .ishl | .ishr | .iushr | .i2l | .l2i | .land | .lor | .lshl | .lshr | .lushr | .dup | .dup2 | .pop | .arraylength | .iaload | .iastore | .baload | .bastore | .aaload | .aastore => decide (len = m_len ins)
  | _ => false
def m_ok (i pc : Nat) (en : m_E) : Bool := decide (decode (m_b i) pc = .ok (en.1, en.2.1)) && m_okI i pc en
def m_okE (i : Nat) (q : Option m_E × Nat) : Bool := match q.1 with
  | some en => m_ok i q.2 en
  | none => true
def m_okM (i : Nat) : Bool := (m_code i).zipIdx.all (m_okE i)
set_option maxRecDepth 100000 in
theorem m_okM_0 : ([0, 1, 2, 3, 4, 5, 6, 7, 8, 9, 10, 11, 12] : List Nat).all m_okM = true := by decide +kernel
set_option maxRecDepth 100000 in
theorem m_okM_1 : ([13, 14, 15, 16, 17, 18, 19, 20] : List Nat).all m_okM = true := by decide +kernel
set_option maxRecDepth 100000 in
theorem m_okM_2 : ([21, 22, 23, 24, 25] : List Nat).all m_okM = true := by decide +kernel
set_option maxRecDepth 100000 in
theorem m_okM_3 : ([26, 27, 28, 29, 30] : List Nat).all m_okM = true := by decide +kernel
set_option maxRecDepth 100000 in
theorem m_okM_4 : ([31, 32, 33, 34, 35, 36] : List Nat).all m_okM = true := by decide +kernel
set_option maxRecDepth 100000 in
theorem m_okM_5 : ([37, 38, 39, 40, 41] : List Nat).all m_okM = true := by decide +kernel
set_option maxRecDepth 100000 in
theorem m_okM_6 : ([42, 43, 44, 45, 46, 47] : List Nat).all m_okM = true := by decide +kernel
set_option maxRecDepth 100000 in
theorem m_okM_7 : ([48, 49, 50, 51, 52, 53, 54, 55] : List Nat).all m_okM = true := by decide +kernel
set_option maxRecDepth 100000 in
theorem m_okM_8 : ([56, 57, 58, 59, 60, 61, 62] : List Nat).all m_okM = true := by decide +kernel
set_option maxRecDepth 100000 in
theorem m_okM_9 : ([63, 64, 65, 66] : List Nat).all m_okM = true := by decide +kernel
set_option maxRecDepth 100000 in
theorem m_okM_10 : ([67, 68, 69, 70, 71, 72] : List Nat).all m_okM = true := by decide +kernel
set_option maxRecDepth 100000 in
theorem m_okM_11 : ([73, 74, 75, 76, 77, 78] : List Nat).all m_okM = true := by decide +kernel
set_option maxRecDepth 100000 in
theorem m_okM_12 : ([79, 80, 81, 82, 83] : List Nat).all m_okM = true := by decide +kernel
set_option maxRecDepth 100000 in
theorem m_okM_13 : ([84, 85, 86, 87, 88] : List Nat).all m_okM = true := by decide +kernel
set_option maxRecDepth 100000 in
theorem m_okM_14 : ([89, 90, 91, 92] : List Nat).all m_okM = true := by decide +kernel
set_option maxRecDepth 100000 in
theorem m_okM_15 : ([93, 94, 95, 96, 97, 98, 99, 100, 101, 102, 103, 104] : List Nat).all m_okM = true := by decide +kernel
set_option maxRecDepth 100000 in
theorem m_okM_16 : ([105, 106, 107, 108, 109, 110, 111, 112, 113, 114, 115] : List Nat).all m_okM = true := by decide +kernel
set_option maxRecDepth 100000 in
theorem m_okM_17 : ([116, 117, 118] : List Nat).all m_okM = true := by decide +kernel
set_option maxRecDepth 100000 in
theorem m_okM_18 : ([119, 120, 121, 122, 124] : List Nat).all m_okM = true := by decide +kernel
set_option maxRecDepth 100000 in
theorem m_okM_19 : ([125, 126, 127, 128, 129, 130] : List Nat).all m_okM = true := by decide +kernel
set_option maxRecDepth 100000 in
theorem m_okM_20 : ([131, 133, 134, 135, 136] : List Nat).all m_okM = true := by decide +kernel
set_option maxRecDepth 100000 in
theorem m_okM_21 : ([137, 138, 139, 140, 141, 142] : List Nat).all m_okM = true := by decide +kernel
set_option maxRecDepth 100000 in
theorem m_okM_22 : ([143, 144, 145, 146] : List Nat).all m_okM = true := by decide +kernel
set_option maxRecDepth 100000 in
theorem m_okM_23 : ([147, 148, 149, 150, 151] : List Nat).all m_okM = true := by decide +kernel
set_option maxRecDepth 100000 in
theorem m_okM_24 : ([152, 153, 154, 155, 156] : List Nat).all m_okM = true := by decide +kernel
set_option maxRecDepth 100000 in
theorem m_okM_25 : ([158, 159, 160, 161, 162] : List Nat).all m_okM = true := by decide +kernel
set_option maxRecDepth 100000 in
theorem m_okM_26 : ([163, 164, 165, 166] : List Nat).all m_okM = true := by decide +kernel
set_option maxRecDepth 100000 in
theorem m_okM_27 : ([167, 168, 169, 170, 171, 172, 173, 174, 175] : List Nat).all m_okM = true := by decide +kernel
set_option maxRecDepth 100000 in
theorem m_okM_28 : ([176, 177, 178, 179, 180] : List Nat).all m_okM = true := by decide +kernel
set_option maxRecDepth 100000 in
theorem m_okM_29 : ([123] : List Nat).all m_okM = true := by decide +kernel
set_option maxRecDepth 100000 in
theorem m_okM_30 : ([132] : List Nat).all m_okM = true := by decide +kernel
set_option maxRecDepth 100000 in
theorem m_okM_31 : ([157] : List Nat).all m_okM = true := by decide +kernel
end
section
set_option maxRecDepth 100000 in
theorem m_okL_0 : (((m_code 181).zipIdx.drop 0).take 120).all (m_okE 181) = true := by decide +kernel
set_option maxRecDepth 100000 in
theorem m_okL_120 : (((m_code 181).zipIdx.drop 120).take 120).all (m_okE 181) = true := by decide +kernel
set_option maxRecDepth 100000 in
theorem m_okL_240 : (((m_code 181).zipIdx.drop 240).take 120).all (m_okE 181) = true := by decide +kernel
set_option maxRecDepth 100000 in
theorem m_okL_360 : (((m_code 181).zipIdx.drop 360).take 120).all (m_okE 181) = true := by decide +kernel
set_option maxRecDepth 100000 in
theorem m_okL_480 : (((m_code 181).zipIdx.drop 480).take 120).all (m_okE 181) = true := by decide +kernel
set_option maxRecDepth 100000 in
theorem m_okL_600 : (((m_code 181).zipIdx.drop 600).take 120).all (m_okE 181) = true := by decide +kernel
set_option maxRecDepth 100000 in
theorem m_okL_720 : (((m_code 181).zipIdx.drop 720).take 120).all (m_okE 181) = true := by decide +kernel
set_option maxRecDepth 100000 in
theorem m_okL_840 : (((m_code 181).zipIdx.drop 840).take 120).all (m_okE 181) = true := by decide +kernel
set_option maxRecDepth 100000 in
theorem m_okL_960 : (((m_code 181).zipIdx.drop 960).take 120).all (m_okE 181) = true := by decide +kernel
set_option maxRecDepth 100000 in
theorem m_okL_1080 : (((m_code 181).zipIdx.drop 1080).take 120).all (m_okE 181) = true := by decide +kernel
theorem m_okL_len : (m_code 181).length ≤ 1200 := by decide +kernel
theorem m_okChunk {α : Type} {l : List α} {f : α → Bool} {n w : Nat} (h1 : ((l.drop n).take w).all f = true) (h2 : (l.drop (n + w)).all f = true) : (l.drop n).all f = true := by
  have e : l.drop n = (l.drop n).take w ++ (l.drop n).drop w := (List.take_append_drop w _).symm
  rw [e, List.all_append, h1, List.drop_drop, h2]
  rfl
theorem m_okL : m_okM 181 = true := by
  have z : ((m_code 181).zipIdx.drop 1200).all (m_okE 181) = true := by
    rw [List.drop_eq_nil_of_le (by rw [List.length_zipIdx]; exact m_okL_len)]
    rfl
  have z := m_okChunk m_okL_1080 z
  have z := m_okChunk m_okL_960 z
  have z := m_okChunk m_okL_840 z
  have z := m_okChunk m_okL_720 z
  have z := m_okChunk m_okL_600 z
  have z := m_okChunk m_okL_480 z
  have z := m_okChunk m_okL_360 z
  have z := m_okChunk m_okL_240 z
  have z := m_okChunk m_okL_120 z
  have z := m_okChunk m_okL_0 z
  exact z
def m_okList : List (List Nat) := [[0, 1, 2, 3, 4, 5, 6, 7, 8, 9, 10, 11, 12], [13, 14, 15, 16, 17, 18, 19, 20], [21, 22, 23, 24, 25], [26, 27, 28, 29, 30], [31, 32, 33, 34, 35, 36], [37, 38, 39, 40, 41], [42, 43, 44, 45, 46, 47], [48, 49, 50, 51, 52, 53, 54, 55], [56, 57, 58, 59, 60, 61, 62], [63, 64, 65, 66], [67, 68, 69, 70, 71, 72], [73, 74, 75, 76, 77, 78], [79, 80, 81, 82, 83], [84, 85, 86, 87, 88], [89, 90, 91, 92], [93, 94, 95, 96, 97, 98, 99, 100, 101, 102, 103, 104], [105, 106, 107, 108, 109, 110, 111, 112, 113, 114, 115], [116, 117, 118], [119, 120, 121, 122, 124], [125, 126, 127, 128, 129, 130], [131, 133, 134, 135, 136], [137, 138, 139, 140, 141, 142], [143, 144, 145, 146], [147, 148, 149, 150, 151], [152, 153, 154, 155, 156], [158, 159, 160, 161, 162], [163, 164, 165, 166], [167, 168, 169, 170, 171, 172, 173, 174, 175], [176, 177, 178, 179, 180], [123], [132], [157], [181]]
theorem m_okLists : ∀ l ∈ m_okList, l.all m_okM = true := List.forall_mem_cons.mpr ⟨m_okM_0, List.forall_mem_cons.mpr ⟨m_okM_1, List.forall_mem_cons.mpr ⟨m_okM_2, List.forall_mem_cons.mpr ⟨m_okM_3, List.forall_mem_cons.mpr ⟨m_okM_4, List.forall_mem_cons.mpr ⟨m_okM_5, List.forall_mem_cons.mpr ⟨m_okM_6, List.forall_mem_cons.mpr ⟨m_okM_7, List.forall_mem_cons.mpr ⟨m_okM_8, List.forall_mem_cons.mpr ⟨m_okM_9, List.forall_mem_cons.mpr ⟨m_okM_10, List.forall_mem_cons.mpr ⟨m_okM_11, List.forall_mem_cons.mpr ⟨m_okM_12, List.forall_mem_cons.mpr ⟨m_okM_13, List.forall_mem_cons.mpr ⟨m_okM_14, List.forall_mem_cons.mpr ⟨m_okM_15, List.forall_mem_cons.mpr ⟨m_okM_16, List.forall_mem_cons.mpr ⟨m_okM_17, List.forall_mem_cons.mpr ⟨m_okM_18, List.forall_mem_cons.mpr ⟨m_okM_19, List.forall_mem_cons.mpr ⟨m_okM_20, List.forall_mem_cons.mpr ⟨m_okM_21, List.forall_mem_cons.mpr ⟨m_okM_22, List.forall_mem_cons.mpr ⟨m_okM_23, List.forall_mem_cons.mpr ⟨m_okM_24, List.forall_mem_cons.mpr ⟨m_okM_25, List.forall_mem_cons.mpr ⟨m_okM_26, List.forall_mem_cons.mpr ⟨m_okM_27, List.forall_mem_cons.mpr ⟨m_okM_28, List.forall_mem_cons.mpr ⟨m_okM_29, List.forall_mem_cons.mpr ⟨m_okM_30, List.forall_mem_cons.mpr ⟨m_okM_31, List.forall_mem_cons.mpr ⟨(by simpa using m_okL), fun _ h => absurd h List.not_mem_nil⟩⟩⟩⟩⟩⟩⟩⟩⟩⟩⟩⟩⟩⟩⟩⟩⟩⟩⟩⟩⟩⟩⟩⟩⟩⟩⟩⟩⟩⟩⟩⟩⟩
theorem m_okCover : (List.range 182).all (fun i => m_okList.any (fun l => l.contains i)) = true := by decide +kernel
theorem m_okM_all {i : Nat} (h : i < 182) : m_okM i = true := by
  have h1 := List.all_eq_true.mp m_okCover i (List.mem_range.mpr h)
  obtain ⟨l, hl, hc⟩ := List.any_eq_true.mp h1
  exact List.all_eq_true.mp (m_okLists l hl) i (List.contains_iff_mem.mp hc)
theorem m_ok_at {i pc : Nat} {en : m_E} (h : i < 182) (he : m_nth (m_code i) pc = some (some en)) : m_ok i pc en = true := by
  rw [m_nth_eq] at he
  have h1 := m_okM_all h
  have h2 : (m_code i).zipIdx[pc]? = some (some en, pc) := by simp [List.getElem?_zipIdx, he]
  exact List.all_eq_true.mp h1 _ (List.mem_of_getElem? h2)
end
section
/-! the steps, one by one -/
theorem m_s_iconst {X : Nat → List Int32} {call : Nat → List Value → m_H → Option m_R} {len : Nat} {a : Int} {b pc : Nat} {lv : m_L} {st : List Value} {h : m_H} (n : Int) : m_stp X call (.iconst n, len, a, b) pc lv st h = (m_nx (pc + len) lv (.int (Int32.ofInt n) :: st) h) := rfl
theorem m_s_bipush {X : Nat → List Int32} {call : Nat → List Value → m_H → Option m_R} {len : Nat} {a : Int} {b pc : Nat} {lv : m_L} {st : List Value} {h : m_H} (n : Int) : m_stp X call (.bipush n, len, a, b) pc lv st h = (m_nx (pc + len) lv (.int (Int8.ofInt n).toInt32 :: st) h) := rfl
theorem m_s_sipush {X : Nat → List Int32} {call : Nat → List Value → m_H → Option m_R} {len : Nat} {a : Int} {b pc : Nat} {lv : m_L} {st : List Value} {h : m_H} (n : Int) : m_stp X call (.sipush n, len, a, b) pc lv st h = (m_nx (pc + len) lv (.int (Int16.ofInt n).toInt32 :: st) h) := rfl
theorem m_s_ldc {X : Nat → List Int32} {call : Nat → List Value → m_H → Option m_R} {len : Nat} {a : Int} {b pc : Nat} {lv : m_L} {st : List Value} {h : m_H} (q : Nat) : m_stp X call (.ldc q, len, a, b) pc lv st h = (m_nx (pc + len) lv (.int (Int32.ofInt a) :: st) h) := rfl
theorem m_s_ldc_w {X : Nat → List Int32} {call : Nat → List Value → m_H → Option m_R} {len : Nat} {a : Int} {b pc : Nat} {lv : m_L} {st : List Value} {h : m_H} (q : Nat) : m_stp X call (.ldc_w q, len, a, b) pc lv st h = (m_nx (pc + len) lv (.int (Int32.ofInt a) :: st) h) := rfl
theorem m_s_ldc2_w {X : Nat → List Int32} {call : Nat → List Value → m_H → Option m_R} {len : Nat} {a : Int} {b pc : Nat} {lv : m_L} {st : List Value} {h : m_H} (q : Nat) : m_stp X call (.ldc2_w q, len, a, b) pc lv st h = (m_nx (pc + len) lv (.long (Int64.ofInt a) :: st) h) := rfl
theorem m_s_aconst_null {X : Nat → List Int32} {call : Nat → List Value → m_H → Option m_R} {len : Nat} {a : Int} {b pc : Nat} {lv : m_L} {st : List Value} {h : m_H} : m_stp X call (.aconst_null, len, a, b) pc lv st h = (m_nx (pc + len) lv (.null :: st) h) := rfl
theorem m_s_iload_n {X : Nat → List Int32} {call : Nat → List Value → m_H → Option m_R} {len : Nat} {a : Int} {b pc : Nat} {lv : m_L} {st : List Value} {h : m_H} (k : Fin 4) : m_stp X call (.iload_n k, len, a, b) pc lv st h = ((match m_lg lv k.val with
    | some (.int x) => m_nx (pc + len) lv (.int x :: st) h
    | _ => none)) := rfl
theorem m_s_iload {X : Nat → List Int32} {call : Nat → List Value → m_H → Option m_R} {len : Nat} {a : Int} {b pc : Nat} {lv : m_L} {st : List Value} {h : m_H} (k : Nat) : m_stp X call (.iload k, len, a, b) pc lv st h = ((match m_lg lv k with
    | some (.int x) => m_nx (pc + len) lv (.int x :: st) h
    | _ => none)) := rfl
theorem m_s_lload_n {X : Nat → List Int32} {call : Nat → List Value → m_H → Option m_R} {len : Nat} {a : Int} {b pc : Nat} {lv : m_L} {st : List Value} {h : m_H} (k : Fin 4) : m_stp X call (.lload_n k, len, a, b) pc lv st h = ((match m_lg lv k.val with
    | some (.long x) => m_nx (pc + len) lv (.long x :: st) h
    | _ => none)) := rfl
theorem m_s_lload {X : Nat → List Int32} {call : Nat → List Value → m_H → Option m_R} {len : Nat} {a : Int} {b pc : Nat} {lv : m_L} {st : List Value} {h : m_H} (k : Nat) : m_stp X call (.lload k, len, a, b) pc lv st h = ((match m_lg lv k with
    | some (.long x) => m_nx (pc + len) lv (.long x :: st) h
    | _ => none)) := rfl
theorem m_s_aload_n {X : Nat → List Int32} {call : Nat → List Value → m_H → Option m_R} {len : Nat} {a : Int} {b pc : Nat} {lv : m_L} {st : List Value} {h : m_H} (k : Fin 4) : m_stp X call (.aload_n k, len, a, b) pc lv st h = ((match m_lg lv k.val with
    | some (.ref x) => m_nx (pc + len) lv (.ref x :: st) h
    | some .null => m_nx (pc + len) lv (.null :: st) h
    | _ => none)) := rfl
theorem m_s_aload {X : Nat → List Int32} {call : Nat → List Value → m_H → Option m_R} {len : Nat} {a : Int} {b pc : Nat} {lv : m_L} {st : List Value} {h : m_H} (k : Nat) : m_stp X call (.aload k, len, a, b) pc lv st h = ((match m_lg lv k with
    | some (.ref x) => m_nx (pc + len) lv (.ref x :: st) h
    | some .null => m_nx (pc + len) lv (.null :: st) h
    | _ => none)) := rfl
theorem m_s_istore_n {X : Nat → List Int32} {call : Nat → List Value → m_H → Option m_R} {len : Nat} {a : Int} {b pc : Nat} {lv : m_L} {st : List Value} {h : m_H} (k : Fin 4) : m_stp X call (.istore_n k, len, a, b) pc lv st h = ((match st with
    | .int x :: r => m_nx (pc + len) (m_st lv k.val (.int x)) r h
    | _ => none)) := rfl
theorem m_s_istore {X : Nat → List Int32} {call : Nat → List Value → m_H → Option m_R} {len : Nat} {a : Int} {b pc : Nat} {lv : m_L} {st : List Value} {h : m_H} (k : Nat) : m_stp X call (.istore k, len, a, b) pc lv st h = ((match st with
    | .int x :: r => m_nx (pc + len) (m_st lv k (.int x)) r h
    | _ => none)) := rfl
theorem m_s_astore_n {X : Nat → List Int32} {call : Nat → List Value → m_H → Option m_R} {len : Nat} {a : Int} {b pc : Nat} {lv : m_L} {st : List Value} {h : m_H} (k : Fin 4) : m_stp X call (.astore_n k, len, a, b) pc lv st h = ((match st with
    | .ref x :: r => m_nx (pc + len) (m_st lv k.val (.ref x)) r h
    | .null :: r => m_nx (pc + len) (m_st lv k.val .null) r h
    | _ => none)) := rfl
theorem m_s_astore {X : Nat → List Int32} {call : Nat → List Value → m_H → Option m_R} {len : Nat} {a : Int} {b pc : Nat} {lv : m_L} {st : List Value} {h : m_H} (k : Nat) : m_stp X call (.astore k, len, a, b) pc lv st h = ((match st with
    | .ref x :: r => m_nx (pc + len) (m_st lv k (.ref x)) r h
    | .null :: r => m_nx (pc + len) (m_st lv k .null) r h
    | _ => none)) := rfl
theorem m_s_iinc {X : Nat → List Int32} {call : Nat → List Value → m_H → Option m_R} {len : Nat} {a : Int} {b pc : Nat} {lv : m_L} {st : List Value} {h : m_H} (i : Nat) (n : Int) : m_stp X call (.iinc i n, len, a, b) pc lv st h = ((match m_lg lv i with
    | some (.int x) => m_nx (pc + len) (m_st lv i (.int (x + Int32.ofInt n))) st h
    | _ => none)) := rfl
theorem m_s_iadd {X : Nat → List Int32} {call : Nat → List Value → m_H → Option m_R} {len : Nat} {a : Int} {b pc : Nat} {lv : m_L} {st : List Value} {h : m_H} : m_stp X call (.iadd, len, a, b) pc lv st h = ((match st with
    | .int y :: .int x :: r => m_nx (pc + len) lv (.int (x + y) :: r) h
    | _ => none)) := rfl
theorem m_s_isub {X : Nat → List Int32} {call : Nat → List Value → m_H → Option m_R} {len : Nat} {a : Int} {b pc : Nat} {lv : m_L} {st : List Value} {h : m_H} : m_stp X call (.isub, len, a, b) pc lv st h = ((match st with
    | .int y :: .int x :: r => m_nx (pc + len) lv (.int (x - y) :: r) h
    | _ => none)) := rfl
theorem m_s_imul {X : Nat → List Int32} {call : Nat → List Value → m_H → Option m_R} {len : Nat} {a : Int} {b pc : Nat} {lv : m_L} {st : List Value} {h : m_H} : m_stp X call (.imul, len, a, b) pc lv st h = ((match st with
    | .int y :: .int x :: r => m_nx (pc + len) lv (.int (x * y) :: r) h
    | _ => none)) := rfl
theorem m_s_iand {X : Nat → List Int32} {call : Nat → List Value → m_H → Option m_R} {len : Nat} {a : Int} {b pc : Nat} {lv : m_L} {st : List Value} {h : m_H} : m_stp X call (.iand, len, a, b) pc lv st h = ((match st with
    | .int y :: .int x :: r => m_nx (pc + len) lv (.int (x &&& y) :: r) h
    | _ => none)) := rfl
theorem m_s_ior {X : Nat → List Int32} {call : Nat → List Value → m_H → Option m_R} {len : Nat} {a : Int} {b pc : Nat} {lv : m_L} {st : List Value} {h : m_H} : m_stp X call (.ior, len, a, b) pc lv st h = ((match st with
    | .int y :: .int x :: r => m_nx (pc + len) lv (.int (x ||| y) :: r) h
    | _ => none)) := rfl
theorem m_s_ixor {X : Nat → List Int32} {call : Nat → List Value → m_H → Option m_R} {len : Nat} {a : Int} {b pc : Nat} {lv : m_L} {st : List Value} {h : m_H} : m_stp X call (.ixor, len, a, b) pc lv st h = ((match st with
    | .int y :: .int x :: r => m_nx (pc + len) lv (.int (x ^^^ y) :: r) h
    | _ => none)) := rfl
theorem m_s_idiv {X : Nat → List Int32} {call : Nat → List Value → m_H → Option m_R} {len : Nat} {a : Int} {b pc : Nat} {lv : m_L} {st : List Value} {h : m_H} : m_stp X call (.idiv, len, a, b) pc lv st h = ((match st with
    | .int y :: .int x :: r => if y = 0 then none else m_nx (pc + len) lv (.int (x / y) :: r) h
    | _ => none)) := rfl
theorem m_s_irem {X : Nat → List Int32} {call : Nat → List Value → m_H → Option m_R} {len : Nat} {a : Int} {b pc : Nat} {lv : m_L} {st : List Value} {h : m_H} : m_stp X call (.irem, len, a, b) pc lv st h = ((match st with
    | .int y :: .int x :: r => if y = 0 then none else m_nx (pc + len) lv (.int (x - x / y * y) :: r) h
    | _ => none)) := rfl
theorem m_s_ishl {X : Nat → List Int32} {call : Nat → List Value → m_H → Option m_R} {len : Nat} {a : Int} {b pc : Nat} {lv : m_L} {st : List Value} {h : m_H} : m_stp X call (.ishl, len, a, b) pc lv st h = ((match st with
    | .int y :: .int x :: r => m_nx (pc + len) lv (.int (x <<< (y &&& 31)) :: r) h
    | _ => none)) := rfl
theorem m_s_ishr {X : Nat → List Int32} {call : Nat → List Value → m_H → Option m_R} {len : Nat} {a : Int} {b pc : Nat} {lv : m_L} {st : List Value} {h : m_H} : m_stp X call (.ishr, len, a, b) pc lv st h = ((match st with
    | .int y :: .int x :: r => m_nx (pc + len) lv (.int (x >>> (y &&& 31)) :: r) h
    | _ => none)) := rfl
theorem m_s_iushr {X : Nat → List Int32} {call : Nat → List Value → m_H → Option m_R} {len : Nat} {a : Int} {b pc : Nat} {lv : m_L} {st : List Value} {h : m_H} : m_stp X call (.iushr, len, a, b) pc lv st h = ((match st with
    | .int y :: .int x :: r => m_nx (pc + len) lv (.int ((x.toUInt32 >>> (y.toUInt32 &&& Int32.toUInt32 31)).toInt32) :: r) h
    | _ => none)) := rfl
theorem m_s_land {X : Nat → List Int32} {call : Nat → List Value → m_H → Option m_R} {len : Nat} {a : Int} {b pc : Nat} {lv : m_L} {st : List Value} {h : m_H} : m_stp X call (.land, len, a, b) pc lv st h = ((match st with
    | .long y :: .long x :: r => m_nx (pc + len) lv (.long (x &&& y) :: r) h
    | _ => none)) := rfl
theorem m_s_lor {X : Nat → List Int32} {call : Nat → List Value → m_H → Option m_R} {len : Nat} {a : Int} {b pc : Nat} {lv : m_L} {st : List Value} {h : m_H} : m_stp X call (.lor, len, a, b) pc lv st h = ((match st with
    | .long y :: .long x :: r => m_nx (pc + len) lv (.long (x ||| y) :: r) h
    | _ => none)) := rfl
theorem m_s_lshl {X : Nat → List Int32} {call : Nat → List Value → m_H → Option m_R} {len : Nat} {a : Int} {b pc : Nat} {lv : m_L} {st : List Value} {h : m_H} : m_stp X call (.lshl, len, a, b) pc lv st h = ((match st with
    | .int y :: .long x :: r => m_nx (pc + len) lv (.long (x <<< (y.toInt64 &&& 63)) :: r) h
    | _ => none)) := rfl
theorem m_s_lshr {X : Nat → List Int32} {call : Nat → List Value → m_H → Option m_R} {len : Nat} {a : Int} {b pc : Nat} {lv : m_L} {st : List Value} {h : m_H} : m_stp X call (.lshr, len, a, b) pc lv st h = ((match st with
    | .int y :: .long x :: r => m_nx (pc + len) lv (.long (x >>> (y.toInt64 &&& 63)) :: r) h
    | _ => none)) := rfl
theorem m_s_lushr {X : Nat → List Int32} {call : Nat → List Value → m_H → Option m_R} {len : Nat} {a : Int} {b pc : Nat} {lv : m_L} {st : List Value} {h : m_H} : m_stp X call (.lushr, len, a, b) pc lv st h = ((match st with
    | .int y :: .long x :: r => m_nx (pc + len) lv (.long ((x.toUInt64 >>> (y.toInt64.toUInt64 &&& Int64.toUInt64 63)).toInt64) :: r) h
    | _ => none)) := rfl
theorem m_s_ineg {X : Nat → List Int32} {call : Nat → List Value → m_H → Option m_R} {len : Nat} {a : Int} {b pc : Nat} {lv : m_L} {st : List Value} {h : m_H} : m_stp X call (.ineg, len, a, b) pc lv st h = ((match st with
    | .int x :: r => m_nx (pc + len) lv (.int (-x) :: r) h
    | _ => none)) := rfl
theorem m_s_i2l {X : Nat → List Int32} {call : Nat → List Value → m_H → Option m_R} {len : Nat} {a : Int} {b pc : Nat} {lv : m_L} {st : List Value} {h : m_H} : m_stp X call (.i2l, len, a, b) pc lv st h = ((match st with
    | .int x :: r => m_nx (pc + len) lv (.long (x.toInt64) :: r) h
    | _ => none)) := rfl
theorem m_s_l2i {X : Nat → List Int32} {call : Nat → List Value → m_H → Option m_R} {len : Nat} {a : Int} {b pc : Nat} {lv : m_L} {st : List Value} {h : m_H} : m_stp X call (.l2i, len, a, b) pc lv st h = ((match st with
    | .long x :: r => m_nx (pc + len) lv (.int (x.toInt32) :: r) h
    | _ => none)) := rfl
theorem m_s_dup {X : Nat → List Int32} {call : Nat → List Value → m_H → Option m_R} {len : Nat} {a : Int} {b pc : Nat} {lv : m_L} {st : List Value} {h : m_H} : m_stp X call (.dup, len, a, b) pc lv st h = ((match st with
    | .int x :: r => m_nx (pc + len) lv (.int x :: .int x :: r) h
    | .ref x :: r => m_nx (pc + len) lv (.ref x :: .ref x :: r) h
    | _ => none)) := rfl
theorem m_s_dup2 {X : Nat → List Int32} {call : Nat → List Value → m_H → Option m_R} {len : Nat} {a : Int} {b pc : Nat} {lv : m_L} {st : List Value} {h : m_H} : m_stp X call (.dup2, len, a, b) pc lv st h = ((match st with
    | .int x :: .ref y :: r => m_nx (pc + len) lv (.int x :: .ref y :: .int x :: .ref y :: r) h
    | _ => none)) := rfl
theorem m_s_pop {X : Nat → List Int32} {call : Nat → List Value → m_H → Option m_R} {len : Nat} {a : Int} {b pc : Nat} {lv : m_L} {st : List Value} {h : m_H} : m_stp X call (.pop, len, a, b) pc lv st h = ((match st with
    | .int _ :: r => m_nx (pc + len) lv r h
    | _ => none)) := rfl
theorem m_s_ifCond_eq {X : Nat → List Int32} {call : Nat → List Value → m_H → Option m_R} {len : Nat} {a : Int} {b pc : Nat} {lv : m_L} {st : List Value} {h : m_H} (q : Int) : m_stp X call (.ifCond .eq q, len, a, b) pc lv st h = ((match st with
    | .int x :: r => if x = 0 then m_nx a.toNat lv r h else m_nx (pc + len) lv r h
    | _ => none)) := rfl
theorem m_s_ifCond_ne {X : Nat → List Int32} {call : Nat → List Value → m_H → Option m_R} {len : Nat} {a : Int} {b pc : Nat} {lv : m_L} {st : List Value} {h : m_H} (q : Int) : m_stp X call (.ifCond .ne q, len, a, b) pc lv st h = ((match st with
    | .int x :: r => if x = 0 then m_nx (pc + len) lv r h else m_nx a.toNat lv r h
    | _ => none)) := rfl
theorem m_s_ifCond_lt {X : Nat → List Int32} {call : Nat → List Value → m_H → Option m_R} {len : Nat} {a : Int} {b pc : Nat} {lv : m_L} {st : List Value} {h : m_H} (q : Int) : m_stp X call (.ifCond .lt q, len, a, b) pc lv st h = ((match st with
    | .int x :: r => if x < 0 then m_nx a.toNat lv r h else m_nx (pc + len) lv r h
    | _ => none)) := rfl
theorem m_s_ifCond_ge {X : Nat → List Int32} {call : Nat → List Value → m_H → Option m_R} {len : Nat} {a : Int} {b pc : Nat} {lv : m_L} {st : List Value} {h : m_H} (q : Int) : m_stp X call (.ifCond .ge q, len, a, b) pc lv st h = ((match st with
    | .int x :: r => if 0 ≤ x then m_nx a.toNat lv r h else m_nx (pc + len) lv r h
    | _ => none)) := rfl
theorem m_s_ifCond_gt {X : Nat → List Int32} {call : Nat → List Value → m_H → Option m_R} {len : Nat} {a : Int} {b pc : Nat} {lv : m_L} {st : List Value} {h : m_H} (q : Int) : m_stp X call (.ifCond .gt q, len, a, b) pc lv st h = ((match st with
    | .int x :: r => if 0 < x then m_nx a.toNat lv r h else m_nx (pc + len) lv r h
    | _ => none)) := rfl
theorem m_s_ifCond_le {X : Nat → List Int32} {call : Nat → List Value → m_H → Option m_R} {len : Nat} {a : Int} {b pc : Nat} {lv : m_L} {st : List Value} {h : m_H} (q : Int) : m_stp X call (.ifCond .le q, len, a, b) pc lv st h = ((match st with
    | .int x :: r => if x ≤ 0 then m_nx a.toNat lv r h else m_nx (pc + len) lv r h
    | _ => none)) := rfl
theorem m_s_if_icmp_eq {X : Nat → List Int32} {call : Nat → List Value → m_H → Option m_R} {len : Nat} {a : Int} {b pc : Nat} {lv : m_L} {st : List Value} {h : m_H} (q : Int) : m_stp X call (.if_icmp .eq q, len, a, b) pc lv st h = ((match st with
    | .int y :: .int x :: r => if x = y then m_nx a.toNat lv r h else m_nx (pc + len) lv r h
    | _ => none)) := rfl
theorem m_s_if_icmp_ne {X : Nat → List Int32} {call : Nat → List Value → m_H → Option m_R} {len : Nat} {a : Int} {b pc : Nat} {lv : m_L} {st : List Value} {h : m_H} (q : Int) : m_stp X call (.if_icmp .ne q, len, a, b) pc lv st h = ((match st with
    | .int y :: .int x :: r => if x = y then m_nx (pc + len) lv r h else m_nx a.toNat lv r h
    | _ => none)) := rfl
theorem m_s_if_icmp_lt {X : Nat → List Int32} {call : Nat → List Value → m_H → Option m_R} {len : Nat} {a : Int} {b pc : Nat} {lv : m_L} {st : List Value} {h : m_H} (q : Int) : m_stp X call (.if_icmp .lt q, len, a, b) pc lv st h = ((match st with
    | .int y :: .int x :: r => if x < y then m_nx a.toNat lv r h else m_nx (pc + len) lv r h
    | _ => none)) := rfl
theorem m_s_if_icmp_ge {X : Nat → List Int32} {call : Nat → List Value → m_H → Option m_R} {len : Nat} {a : Int} {b pc : Nat} {lv : m_L} {st : List Value} {h : m_H} (q : Int) : m_stp X call (.if_icmp .ge q, len, a, b) pc lv st h = ((match st with
    | .int y :: .int x :: r => if y ≤ x then m_nx a.toNat lv r h else m_nx (pc + len) lv r h
    | _ => none)) := rfl
theorem m_s_if_icmp_gt {X : Nat → List Int32} {call : Nat → List Value → m_H → Option m_R} {len : Nat} {a : Int} {b pc : Nat} {lv : m_L} {st : List Value} {h : m_H} (q : Int) : m_stp X call (.if_icmp .gt q, len, a, b) pc lv st h = ((match st with
    | .int y :: .int x :: r => if y < x then m_nx a.toNat lv r h else m_nx (pc + len) lv r h
    | _ => none)) := rfl
theorem m_s_if_icmp_le {X : Nat → List Int32} {call : Nat → List Value → m_H → Option m_R} {len : Nat} {a : Int} {b pc : Nat} {lv : m_L} {st : List Value} {h : m_H} (q : Int) : m_stp X call (.if_icmp .le q, len, a, b) pc lv st h = ((match st with
    | .int y :: .int x :: r => if x ≤ y then m_nx a.toNat lv r h else m_nx (pc + len) lv r h
    | _ => none)) := rfl
theorem m_s_ifnull {X : Nat → List Int32} {call : Nat → List Value → m_H → Option m_R} {len : Nat} {a : Int} {b pc : Nat} {lv : m_L} {st : List Value} {h : m_H} (q : Int) : m_stp X call (.ifnull q, len, a, b) pc lv st h = ((match st with
    | .null :: r => m_nx a.toNat lv r h
    | .ref _ :: r => m_nx (pc + len) lv r h
    | _ => none)) := rfl
theorem m_s_ifnonnull {X : Nat → List Int32} {call : Nat → List Value → m_H → Option m_R} {len : Nat} {a : Int} {b pc : Nat} {lv : m_L} {st : List Value} {h : m_H} (q : Int) : m_stp X call (.ifnonnull q, len, a, b) pc lv st h = ((match st with
    | .null :: r => m_nx (pc + len) lv r h
    | .ref _ :: r => m_nx a.toNat lv r h
    | _ => none)) := rfl
theorem m_s_goto {X : Nat → List Int32} {call : Nat → List Value → m_H → Option m_R} {len : Nat} {a : Int} {b pc : Nat} {lv : m_L} {st : List Value} {h : m_H} (q : Int) : m_stp X call (.goto q, len, a, b) pc lv st h = (m_nx a.toNat lv st h) := rfl
theorem m_s_tableswitch {X : Nat → List Int32} {call : Nat → List Value → m_H → Option m_R} {len : Nat} {a : Int} {b pc : Nat} {lv : m_L} {st : List Value} {h : m_H} (d : Int) (lo : Int) (hi : Int) (offs : Array Int) : m_stp X call (.tableswitch d lo hi offs, len, a, b) pc lv st h = ((match st with
    | .int x :: r => if x.toInt < lo ∨ hi < x.toInt then (match m_go pc d with
      | some t => m_nx t lv r h
      | none => none) else (match m_nth offs.toList (x.toInt - lo).toNat with
      | some off => (match m_go pc off with
        | some t => m_nx t lv r h
        | none => none)
      | none => none)
    | _ => none)) := rfl
theorem m_s_lookupswitch {X : Nat → List Int32} {call : Nat → List Value → m_H → Option m_R} {len : Nat} {a : Int} {b pc : Nat} {lv : m_L} {st : List Value} {h : m_H} (d : Int) (ps : Array (Int × Int)) : m_stp X call (.lookupswitch d ps, len, a, b) pc lv st h = ((match st with
    | .int x :: r => (match m_go pc (Op.lookupswitch.offset ps.toList d x.toInt) with
      | some t => m_nx t lv r h
      | none => none)
    | _ => none)) := rfl
theorem m_s_getfield {X : Nat → List Int32} {call : Nat → List Value → m_H → Option m_R} {len : Nat} {a : Int} {b pc : Nat} {lv : m_L} {st : List Value} {h : m_H} (q : Nat) : m_stp X call (.getfield q, len, a, b) pc lv st h = ((match st with
    | .ref k :: r => (match m_ob h k with
      | some (t, vs) => if t = b then (match m_nth vs (a.toNat % 100) with
        | some (.int x) => m_nx (pc + len) lv (.int x :: r) h
        | some (.ref x) => m_nx (pc + len) lv (.ref x :: r) h
        | some .null => m_nx (pc + len) lv (.null :: r) h
        | _ => none) else none
      | none => none)
    | _ => none)) := rfl
theorem m_s_putfield {X : Nat → List Int32} {call : Nat → List Value → m_H → Option m_R} {len : Nat} {a : Int} {b pc : Nat} {lv : m_L} {st : List Value} {h : m_H} (q : Nat) : m_stp X call (.putfield q, len, a, b) pc lv st h = ((match st with
    | v :: .ref k :: r => (match m_ob h k with
      | some (t, vs) => if t = b ∧ a.toNat % 100 < vs.length ∧ m_fit (a.toNat / 100) v = true then m_nx (pc + len) lv r (h.set k (t, vs.set (a.toNat % 100) v)) else none
      | none => none)
    | _ => none)) := rfl
theorem m_s_getstatic {X : Nat → List Int32} {call : Nat → List Value → m_H → Option m_R} {len : Nat} {a : Int} {b pc : Nat} {lv : m_L} {st : List Value} {h : m_H} (q : Nat) : m_stp X call (.getstatic q, len, a, b) pc lv st h = (m_nx (pc + len) lv (.ref (1000000 + b) :: st) h) := rfl
theorem m_s_new {X : Nat → List Int32} {call : Nat → List Value → m_H → Option m_R} {len : Nat} {a : Int} {b pc : Nat} {lv : m_L} {st : List Value} {h : m_H} (q : Nat) : m_stp X call (.new q, len, a, b) pc lv st h = ((match m_add h b (m_dfl b) with
    | some h' => m_nx (pc + len) lv (.ref h.length :: st) h'
    | none => none)) := rfl
theorem m_s_newarray {X : Nat → List Int32} {call : Nat → List Value → m_H → Option m_R} {len : Nat} {a : Int} {b pc : Nat} {lv : m_L} {st : List Value} {h : m_H} (q : ArrayType) : m_stp X call (.newarray q, len, a, b) pc lv st h = ((match st with
    | .int n :: r => (match m_ix n with
      | some w => if w ≤ 100000 then (match m_add h b (List.replicate w (.int 0)) with
        | some h' => m_nx (pc + len) lv (.ref h.length :: r) h'
        | none => none) else none
      | none => none)
    | _ => none)) := rfl
theorem m_s_anewarray {X : Nat → List Int32} {call : Nat → List Value → m_H → Option m_R} {len : Nat} {a : Int} {b pc : Nat} {lv : m_L} {st : List Value} {h : m_H} (q : Nat) : m_stp X call (.anewarray q, len, a, b) pc lv st h = ((match st with
    | .int n :: r => (match m_ix n with
      | some w => if w ≤ 100000 then (match m_add h b (List.replicate w .null) with
        | some h' => m_nx (pc + len) lv (.ref h.length :: r) h'
        | none => none) else none
      | none => none)
    | _ => none)) := rfl
theorem m_s_arraylength {X : Nat → List Int32} {call : Nat → List Value → m_H → Option m_R} {len : Nat} {a : Int} {b pc : Nat} {lv : m_L} {st : List Value} {h : m_H} : m_stp X call (.arraylength, len, a, b) pc lv st h = ((match st with
    | .ref k :: r => (match m_ln X h k with
      | some n => m_nx (pc + len) lv (.int n :: r) h
      | none => none)
    | _ => none)) := rfl
theorem m_s_iaload {X : Nat → List Int32} {call : Nat → List Value → m_H → Option m_R} {len : Nat} {a : Int} {b pc : Nat} {lv : m_L} {st : List Value} {h : m_H} : m_stp X call (.iaload, len, a, b) pc lv st h = ((match st with
    | .int i :: .ref k :: r => (match m_el X h 20 k i with
      | some (.int x) => m_nx (pc + len) lv (.int x :: r) h
      | _ => none)
    | _ => none)) := rfl
theorem m_s_baload {X : Nat → List Int32} {call : Nat → List Value → m_H → Option m_R} {len : Nat} {a : Int} {b pc : Nat} {lv : m_L} {st : List Value} {h : m_H} : m_stp X call (.baload, len, a, b) pc lv st h = ((match st with
    | .int i :: .ref k :: r => (match m_el X h 21 k i with
      | some (.int x) => m_nx (pc + len) lv (.int x :: r) h
      | _ => none)
    | _ => none)) := rfl
theorem m_s_aaload {X : Nat → List Int32} {call : Nat → List Value → m_H → Option m_R} {len : Nat} {a : Int} {b pc : Nat} {lv : m_L} {st : List Value} {h : m_H} : m_stp X call (.aaload, len, a, b) pc lv st h = ((match st with
    | .int i :: .ref k :: r => (match m_ob h k, m_ix i with
      | some (t, vs), some j => if 22 ≤ t ∧ t ≤ 26 then (match m_nth vs j with
        | some (.ref x) => m_nx (pc + len) lv (.ref x :: r) h
        | some .null => m_nx (pc + len) lv (.null :: r) h
        | _ => none) else none
      | _, _ => none)
    | _ => none)) := rfl
theorem m_s_iastore {X : Nat → List Int32} {call : Nat → List Value → m_H → Option m_R} {len : Nat} {a : Int} {b pc : Nat} {lv : m_L} {st : List Value} {h : m_H} : m_stp X call (.iastore, len, a, b) pc lv st h = ((match st with
    | .int x :: .int i :: .ref k :: r => (match m_se h 20 k i (.int x) with
      | some h' => m_nx (pc + len) lv r h'
      | none => none)
    | _ => none)) := rfl
theorem m_s_bastore {X : Nat → List Int32} {call : Nat → List Value → m_H → Option m_R} {len : Nat} {a : Int} {b pc : Nat} {lv : m_L} {st : List Value} {h : m_H} : m_stp X call (.bastore, len, a, b) pc lv st h = ((match st with
    | .int x :: .int i :: .ref k :: r => if x = 0 ∨ x = 1 then (match m_se h 21 k i (.int x) with
      | some h' => m_nx (pc + len) lv r h'
      | none => none) else none
    | _ => none)) := rfl
theorem m_s_aastore {X : Nat → List Int32} {call : Nat → List Value → m_H → Option m_R} {len : Nat} {a : Int} {b pc : Nat} {lv : m_L} {st : List Value} {h : m_H} : m_stp X call (.aastore, len, a, b) pc lv st h = ((match st with
    | v :: .int i :: .ref k :: r => (match m_ob h k, m_ix i with
      | some (t, vs), some j => if 22 ≤ t ∧ t ≤ 26 ∧ j < vs.length ∧ m_asg h t v = true then m_nx (pc + len) lv r (h.set k (t, vs.set j v)) else none
      | _, _ => none)
    | _ => none)) := rfl
theorem m_s_invokevirtual {X : Nat → List Int32} {call : Nat → List Value → m_H → Option m_R} {len : Nat} {a : Int} {b pc : Nat} {lv : m_L} {st : List Value} {h : m_H} (q : Nat) : m_stp X call (.invokevirtual q, len, a, b) pc lv st h = ((match st.drop b with
    | .ref k :: r => (match m_ob h k with
      | some (t, _) => if t = m_oc a.toNat ∧ r.length ≤ 4 ∧ b ≤ st.length then (match call a.toNat (.ref k :: (st.take b).reverse) h with
        | some (v, h') => m_nx (pc + len) lv (v.toList ++ r) h'
        | none => none) else none
      | none => none)
    | _ => none)) := rfl
theorem m_s_invokestatic {X : Nat → List Int32} {call : Nat → List Value → m_H → Option m_R} {len : Nat} {a : Int} {b pc : Nat} {lv : m_L} {st : List Value} {h : m_H} (q : Nat) : m_stp X call (.invokestatic q, len, a, b) pc lv st h = (if a.toNat = 9999 then (match st with
    | .int n :: .int dp :: .ref q :: .int sp :: .ref k :: r => (match m_acp h k sp q dp n with
      | some h' => if r.length ≤ 4 then m_nx (pc + len) lv r h' else none
      | none => none)
    | _ => none) else if (st.drop b).length ≤ 4 ∧ b ≤ st.length then (match call a.toNat (st.take b).reverse h with
      | some (v, h') => m_nx (pc + len) lv (v.toList ++ st.drop b) h'
      | none => none) else none) := rfl
theorem m_s_invokespecial {X : Nat → List Int32} {call : Nat → List Value → m_H → Option m_R} {len : Nat} {a : Int} {b pc : Nat} {lv : m_L} {st : List Value} {h : m_H} (q : Nat) : m_stp X call (.invokespecial q, len, a, b) pc lv st h = (if a.toNat = 9998 then (match st with
    | .ref _ :: r => if r.length ≤ 4 then m_nx (pc + len) lv r h else none
    | _ => none) else (match st.drop b with
    | .ref k :: r => if r.length ≤ 4 ∧ b ≤ st.length ∧ k < 1000000 then (match call a.toNat (.ref k :: (st.take b).reverse) h with
        | some (v, h') => m_nx (pc + len) lv (v.toList ++ r) h'
        | none => none) else none
    | _ => none)) := rfl
theorem m_s_ireturn {X : Nat → List Int32} {call : Nat → List Value → m_H → Option m_R} {len : Nat} {a : Int} {b pc : Nat} {lv : m_L} {st : List Value} {h : m_H} : m_stp X call (.ireturn, len, a, b) pc lv st h = ((match st with
    | [.int x] => if b = 0 ∨ x = 0 ∨ x = 1 then some (.inr (some (.int x), h)) else none
    | _ => none)) := rfl
theorem m_s_areturn {X : Nat → List Int32} {call : Nat → List Value → m_H → Option m_R} {len : Nat} {a : Int} {b pc : Nat} {lv : m_L} {st : List Value} {h : m_H} : m_stp X call (.areturn, len, a, b) pc lv st h = ((match st with
    | [.ref x] => some (.inr (some (.ref x), h))
    | [.null] => some (.inr (some .null, h))
    | _ => none)) := rfl
theorem m_s_return_ {X : Nat → List Int32} {call : Nat → List Value → m_H → Option m_R} {len : Nat} {a : Int} {b pc : Nat} {lv : m_L} {st : List Value} {h : m_H} : m_stp X call (.return_, len, a, b) pc lv st h = ((match st with
    | [] => some (.inr (none, h))
    | _ => none)) := rfl
end
section
/-! the plain heap and the machine's -/
abbrev m_AE : Type := Nat × (Nat → Nat)
def m_rl (E : m_AE) (k : Nat) : Nat := if k < 1000000 then E.1 + k else E.2 (k - 1000000)
def m_rv (E : m_AE) : Value → Value
  | .ref k => .ref (m_rl E k)
  | v => v
def m_rq (E : m_AE) (q : Nat × Value) : Nat × Value := (q.1, m_rv E q.2)
def m_i1 : Value → Int32
  | .int x => x
  | _ => 0
def m_or (E : m_AE) : Value → Option Nat
  | .ref k => some (m_rl E k)
  | _ => none
def m_cell (E : m_AE) (ty : Nat → ClassId) (c : Nat × List Value) : va_E :=
  if c.1 < 20 then .inr (c.1, c.2.map (m_rv E))
  else if c.1 < 22 then .inl (ty (c.1 - 20), c.2.length, .inl (fun j => m_i1 (c.2.getD j (.int 0))))
  else .inl (ty (c.1 - 20), c.2.length, .inr (.inr (.inr (.inr (fun j => m_or E (c.2.getD j .null))))))
def m_tys (ty : Nat → ClassId) : List (ClassId × FieldType) := [(ty 0, .int), (ty 1, .boolean), (ty 2, .object "WayBoxes$Text"), (ty 3, .object "WayBoxes$Box"), (ty 4, .object "WayBoxes$Packet"), (ty 5, .object "WayBoxes$Memory"), (ty 6, .object "WayBoxes$Watch")]
def m_ws (E : m_AE) (ty : Nat → ClassId) (h : m_H) : va_W := h.mapIdx (fun k c => (E.1 + k, m_cell E ty c))
def m_A (E : m_AE) : Nat → Prop := fun q => E.1 ≤ q
def m_sz (h : m_H) : Nat := (h.map (fun c => c.2.length)).sum
theorem m_ws_get (E : m_AE) (ty : Nat → ClassId) (h : m_H) (k : Nat) : (m_ws E ty h)[k]? = (h[k]?).map (fun c => (E.1 + k, m_cell E ty c)) := by
  simp [m_ws, List.getElem?_mapIdx]
theorem m_ws_at {E : m_AE} {ty : Nat → ClassId} {h : m_H} {k : Nat} {c : Nat × List Value} (hk : m_nth h k = some c) : (m_ws E ty h)[k]? = some (E.1 + k, m_cell E ty c) := by
  rw [m_ws_get, ← m_nth_eq, hk]
  rfl
theorem m_ws_len (E : m_AE) (ty : Nat → ClassId) (h : m_H) : (m_ws E ty h).length = h.length := by simp [m_ws]
theorem m_ws_set (E : m_AE) (ty : Nat → ClassId) (h : m_H) (k : Nat) (c : Nat × List Value) : m_ws E ty (h.set k c) = (m_ws E ty h).set k (E.1 + k, m_cell E ty c) := by
  apply List.ext_getElem?
  intro j
  rw [m_ws_get, List.getElem?_set, List.getElem?_set, m_ws_get, m_ws_len]
  by_cases hk : k = j
  · subst hk
    by_cases hl : k < h.length <;> simp [hl]
  · simp [hk]
theorem m_ws_add (E : m_AE) (ty : Nat → ClassId) (h : m_H) (c : Nat × List Value) : m_ws E ty (h ++ [c]) = m_ws E ty h ++ [(E.1 + h.length, m_cell E ty c)] := by
  apply List.ext_getElem?
  intro j
  rw [m_ws_get, List.getElem?_append, List.getElem?_append, m_ws_get, m_ws_len]
  by_cases hl : j < h.length
  · simp [hl]
  · by_cases h2 : j = h.length
    · subst h2
      simp
    · have h3 : 1 ≤ j - h.length := by omega
      rw [if_neg hl, if_neg hl, List.getElem?_eq_none (by simpa using h3), List.getElem?_eq_none (by simpa using h3)]
      rfl
theorem m_ws_D (E : m_AE) (ty : Nat → ClassId) (h : m_H) : va_D (m_A E) (m_ws E ty h) := by
  refine ⟨fun i j p q hi hj hpq => ?_, fun k q hk => ?_⟩
  · rw [m_ws_get] at hi hj
    obtain ⟨c, -, rfl⟩ := Option.map_eq_some_iff.mp hi
    obtain ⟨c', -, rfl⟩ := Option.map_eq_some_iff.mp hj
    have : E.1 + i = E.1 + j := hpq
    omega
  · rw [m_ws_get] at hk
    obtain ⟨c, -, rfl⟩ := Option.map_eq_some_iff.mp hk
    exact Nat.le_add_right _ _
theorem m_ob_nth {h : m_H} {k : Nat} {c : Nat × List Value} (hk : m_ob h k = some c) : k < 1000000 ∧ m_nth h k = some c := by
  unfold m_ob at hk
  split at hk
  · rename_i h1
    exact ⟨h1, hk⟩
  · cases hk
theorem m_rl_in (E : m_AE) {k : Nat} (h : k < 1000000) : m_rl E k = E.1 + k := if_pos h
theorem m_rv_cat (E : m_AE) (v : Value) : (m_rv E v).category = v.category := by cases v <;> rfl
theorem m_lat {E : m_AE} {ls : Array Slot} {n : Nat} {lv : m_L} {i : Nat} {v : Value} (hl : lv_has ls n (lv.map (m_rq E))) (h : m_lg lv i = some v) : ls[i]? = some (.val (m_rv E v)) :=
  hl.2.2 (i, m_rv E v) (List.mem_map.mpr ⟨(i, v), m_lg_mem h, rfl⟩)
theorem m_lmem {E : m_AE} {lv : m_L} {i : Nat} {v : Value} (h : m_lg lv i = some v) : ∃ k : Nat, (lv.map (m_rq E))[k]? = some (i, m_rv E v) :=
  List.getElem?_of_mem (List.mem_map.mpr ⟨(i, v), m_lg_mem h, rfl⟩)
theorem m_st_map (E : m_AE) (lv : m_L) (i : Nat) (v : Value) : (i, m_rv E v) :: (lv.map (m_rq E)).filter (fun q => !(q.1 == i) && !(q.1 + 1 == i && q.2.category == 2)) = (m_st lv i v).map (m_rq E) := by
  rw [List.filter_map]
  simp only [m_st, List.map_cons]
  have e : ((fun q : Nat × Value => !(q.1 == i) && !(q.1 + 1 == i && q.2.category == 2)) ∘ m_rq E) = fun q : Nat × Value => !(q.1 == i) && !(q.1 + 1 == i && q.2.category == 2) := by
    funext q
    simp [m_rq, m_rv_cat, Function.comp]
  rw [e]
  rfl
theorem m_sz_set {h : m_H} {k t t' : Nat} {us vs : List Value} (hk : m_nth h k = some (t, us)) (hl : vs.length = us.length) : m_sz (h.set k (t', vs)) = m_sz h := by
  induction h generalizing k with
  | nil => rfl
  | cons a r ih =>
    cases k with
    | zero =>
      cases hk
      simp [m_sz, hl]
    | succ k =>
      have := ih (k := k) hk
      simp only [m_sz, List.set_cons_succ, List.map_cons, List.sum_cons] at this ⊢
      rw [this]
theorem m_sz_add (h : m_H) (t : Nat) (vs : List Value) : m_sz (h ++ [(t, vs)]) = m_sz h + vs.length := by simp [m_sz]
theorem m_nth_lt {α : Type} {l : List α} {k : Nat} {a : α} (h : m_nth l k = some a) : k < l.length := by
  rw [m_nth_eq] at h
  exact (List.getElem?_eq_some_iff.mp h).1
/-- what the tables say of the classes, wherever the machine is -/
def m_Kn (D : va_G) (ty : Nat → ClassId) (U : State) : Prop := va_K D vwCl (m_tys ty) U ∧ (∀ w ∈ m_nw, va_Nw w U) ∧ ∀ C ∈ m_ao, va_AO C U
/-- the script and the constant rows -/
def m_Ex (E : m_AE) (X : Nat → List Int32) (U : State) (H : Heap) : Prop := (∀ j, j < 3 → va_T .int (E.2 j) (X j).length (fun k => .int ((X j).getD k 0)) (m_A E) U H) ∧ ∀ j, j = 1 ∨ j = 2 → va_Z m_host (m_sn j) "[I" (.ref (E.2 j)) (m_A E) U H
/-- the machine's heap holds the plain one -/
def m_B (E : m_AE) (D : va_G) (ty : Nat → ClassId) (X : Nat → List Int32) (h : m_H) (U : State) : Prop := U.heap.size = E.1 + h.length ∧ va_P D vwCl (m_ws E ty h) U.heap ∧ m_Kn D ty U ∧ m_Ex E X U U.heap
theorem m_nw_shape {w : Cond} (hw : w ∈ m_nw) : (∃ a i b n d h, w = .fieldLinkNest a i b n d h) ∨ ∃ a i x h, w = .methodLinkNest a i x h := by
  simp only [m_nw, List.mem_append, List.mem_map] at hw
  rcases hw with ((⟨e, -, rfl⟩ | ⟨e, -, rfl⟩) | ⟨e, -, rfl⟩) | ⟨e, -, rfl⟩
  · exact Or.inl ⟨_, _, _, _, _, _, rfl⟩
  · exact Or.inl ⟨_, _, _, _, _, _, rfl⟩
  · exact Or.inr ⟨_, _, _, _, rfl⟩
  · exact Or.inr ⟨_, _, _, _, rfl⟩
theorem m_nw_tab {w : Cond} (hw : w ∈ m_nw) : w.onTables = true := by
  rcases m_nw_shape hw with ⟨a, i, b, n, d, h, rfl⟩ | ⟨a, i, x, h, rfl⟩ <;> rfl
theorem m_Kn.warm {D : va_G} {ty : Nat → ClassId} {s U : State} (h : m_Kn D ty s) (hW : s.WarmedH U.vm) : m_Kn D ty U := by
  refine ⟨va_K.moved hW.alike h.1, fun w hw => ?_, fun C hC => va_AO.moved hW.alike (h.2.2 C hC)⟩
  have h1 := h.2.1 w hw
  rcases m_nw_shape hw with ⟨a, i, b, n, d, h, rfl⟩ | ⟨a, i, x, h, rfl⟩
  · exact va_Nw.warmF hW h1
  · exact va_Nw.warmM hW h1
theorem m_Kn.same {D : va_G} {ty : Nat → ClassId} {u U : State} (h : m_Kn D ty u) (hv : u.vm = U.vm) : m_Kn D ty U := by
  have ha : u.vm.Alike U.vm := by rw [hv]; exact Vm.Alike.refl _
  exact ⟨va_K.moved ha h.1, fun w hw => va_Nw.same (m_nw_tab hw) hv (h.2.1 w hw), fun C hC => va_AO.moved ha (h.2.2 C hC)⟩
theorem m_Ex.kept {E : m_AE} {X : Nat → List Int32} {u U : State} {H H1 : Heap} (h : m_Ex E X u H) (ha : u.vm.Alike U.vm) (hq : ∀ a : Nat, a < H.size → ¬ m_A E a → H1[a]? = H[a]?) : m_Ex E X U H1 :=
  ⟨fun j hj => ((h.1 j hj).moved ha).kept hq, fun j hj => ((h.2 j hj).moved ha).kept hq⟩
end
section
/-! ONE STEP of the small machine is steps of the machine -/
/-- what is fixed while a method runs: i its number, d how deep calls may go, n0, z0 how much there was at its start -/
def m_Fix (E : m_AE) (D : va_G) (ty : Nat → ClassId) (X : Nat → List Int32) (i d n0 : Nat) (p : Program) (R : Room) (s : State) (m : MethodId) (args : Array Value) (meth : Method) (c : Code) : Prop :=
  (p.tables.exec = Jvm.exec ∧ c.code = m_b i ∧ c.maxLocals = m_nl i ∧ s.vm.findClass (m_cn (m_oc i)) = some m.cls ∧ ∀ w ∈ lw_good, w.before args s = true) ∧ m_Kn D ty s ∧ m_Ex E X s s.heap ∧ s.heap.size = E.1 + n0 ∧ i < 182 ∧ ((m_y i).name = "<init>" → meth.name = "<init>") ∧ d + 1 ≤ R.frames ∧ 100 * (d + 1) ≤ R.locals
/-- at a place of the small machine the machine comes to Q, whatever heap holds the plain one -/
def m_At (E : m_AE) (D : va_G) (ty : Nat → ClassId) (i n0 z0 : Nat) (p : Program) (l : Launch) (e : Env) (R : Room) (s : State) (m : MethodId) (args : Array Value) (below : List Frame) (meth : Method) (c : Code) (Q : State → Prop) (C : m_C) : Prop :=
  ∀ (H : Heap) (locs : List Loc) (ls : Array Slot), va_P D vwCl (m_ws E ty C.2.2.2) H → va_S (m_A E) s.heap H locs → lv_has ls (m_nl i) (C.2.1.map (m_rq E)) → W p l e R s m args below meth c H locs (C.2.2.2.length - n0) (m_sz C.2.2.2 - z0) Q (F0 m C.1 ls (C.2.2.1.map (m_rv E)))
theorem m_ok_sp {i pc : Nat} {en : m_E} (h : m_ok i pc en = true) : decode (m_b i) pc = .ok (en.1, en.2.1) ∧ m_okI i pc en = true := by
  simp only [m_ok, Bool.and_eq_true, decide_eq_true_eq] at h
  exact h
theorem m_go_sp {pc t : Nat} {off : Int} (h : m_go pc off = some t) : (pc : Int) + off = (t : Int) := by
  unfold m_go at h
  split at h
  · cases h
    omega
  · cases h
theorem m_pk_in {o k : Nat} {v : Int} (h : (o, k, v) ∈ m_pk) : Cond.constant (m_cn o) k (Int32.ofInt v) ∈ lw_good := by
  have h1 := List.all_eq_true.mp m_pk_ok _ h
  dsimp only at h1
  exact m_has_in h1
theorem m_pl_in {o k : Nat} {v : Int} (h : (o, k, v) ∈ m_pl) : Cond.constantLong (m_cn o) k (Int64.ofInt v) ∈ lw_good := by
  have h1 := List.all_eq_true.mp m_pl_ok _ h
  dsimp only at h1
  exact m_has_in h1
theorem m_pf_in {o k f g : Nat} (h : (o, k, f, g) ∈ m_pf) : Cond.fieldLink (m_cn o) k (m_fd f g).1 (m_fd f g).2.1 (m_fd f g).2.2.1 ∈ lw_good ∧ f < 11 ∧ g < (m_cl f).2.2 := by
  obtain ⟨j, hj⟩ := m_zip m_pf_ln m_pf_ok h
  simp only [Bool.and_eq_true, decide_eq_true_eq] at hj
  exact ⟨m_hi_in hj.1, hj.2.1, hj.2.2⟩
theorem m_pfN_in {o k f g : Nat} (h : (o, k, f, g) ∈ m_pfN) : Cond.fieldLinkNest (m_cn o) k (m_fd f g).1 (m_fd f g).2.1 (m_fd f g).2.2.1 m_host ∈ m_nw ∧ f < 11 ∧ g < (m_cl f).2.2 := by
  have hj := List.all_eq_true.mp m_pfN_ok _ h
  simp only [Bool.and_eq_true, decide_eq_true_eq] at hj
  refine ⟨?_, hj⟩
  unfold m_nw
  exact List.mem_append_left _ (List.mem_append_left _ (List.mem_append_left _ (List.mem_map.mpr ⟨_, h, rfl⟩)))
theorem m_cell_o (E : m_AE) (ty : Nat → ClassId) {t : Nat} (h : t < 20) (vs : List Value) : m_cell E ty (t, vs) = .inr (t, vs.map (m_rv E)) := if_pos h
section STEP
variable {p : Program} {l : Launch} {e : Env} {R : Room} {s : State} {m : MethodId} {args : Array Value} {below : List Frame} {meth : Method} {c : Code} {Q : State → Prop}
variable {E : m_AE} {D : va_G} {ty : Nat → ClassId} {X : Nat → List Int32} {i d n0 z0 : Nat} {call : Nat → List Value → m_H → Option m_R} {len : Nat} {a : Int} {b pc : Nat} {lv : m_L} {st : List Value} {h : m_H} {C' : m_C}
theorem k_iconst (F : m_Fix E D ty X i d n0 p R s m args meth c) {q : Int} (hok : m_ok i pc (.iconst q, len, a, b) = true) (hs : m_stp X call (.iconst q, len, a, b) pc lv st h = some (.inl C'))
    (k : m_At E D ty i n0 z0 p l e R s m args below meth c Q C') : m_At E D ty i n0 z0 p l e R s m args below meth c Q (pc, lv, st, h) := by
  intro H locs ls hP hS hl
  obtain ⟨⟨hx, hb, hml, hown, hts⟩, hKn, hEx, hsz, hi, hini, hR⟩ := F
  obtain ⟨hdg, hI⟩ := m_ok_sp hok
  have e1 : len = 1 := of_decide_eq_true hI
  subst e1
  rw [m_s_iconst] at hs
  cases hs
  exact lv_iconst hx hb hdg rfl (k _ _ _ hP hS hl)
theorem k_bipush (F : m_Fix E D ty X i d n0 p R s m args meth c) {q : Int} (hok : m_ok i pc (.bipush q, len, a, b) = true) (hs : m_stp X call (.bipush q, len, a, b) pc lv st h = some (.inl C'))
    (k : m_At E D ty i n0 z0 p l e R s m args below meth c Q C') : m_At E D ty i n0 z0 p l e R s m args below meth c Q (pc, lv, st, h) := by
  intro H locs ls hP hS hl
  obtain ⟨⟨hx, hb, hml, hown, hts⟩, hKn, hEx, hsz, hi, hini, hR⟩ := F
  obtain ⟨hdg, hI⟩ := m_ok_sp hok
  have e1 : len = 2 := of_decide_eq_true hI
  subst e1
  rw [m_s_bipush] at hs
  cases hs
  exact lv_bipush hx hb hdg rfl (k _ _ _ hP hS hl)
theorem k_sipush (F : m_Fix E D ty X i d n0 p R s m args meth c) {q : Int} (hok : m_ok i pc (.sipush q, len, a, b) = true) (hs : m_stp X call (.sipush q, len, a, b) pc lv st h = some (.inl C'))
    (k : m_At E D ty i n0 z0 p l e R s m args below meth c Q C') : m_At E D ty i n0 z0 p l e R s m args below meth c Q (pc, lv, st, h) := by
  intro H locs ls hP hS hl
  obtain ⟨⟨hx, hb, hml, hown, hts⟩, hKn, hEx, hsz, hi, hini, hR⟩ := F
  obtain ⟨hdg, hI⟩ := m_ok_sp hok
  have e1 : len = 3 := of_decide_eq_true hI
  subst e1
  rw [m_s_sipush] at hs
  cases hs
  exact lv_sipush hx hb hdg rfl (k _ _ _ hP hS hl)
theorem k_ldc (F : m_Fix E D ty X i d n0 p R s m args meth c) {q : Nat} (hok : m_ok i pc (.ldc q, len, a, b) = true) (hs : m_stp X call (.ldc q, len, a, b) pc lv st h = some (.inl C'))
    (k : m_At E D ty i n0 z0 p l e R s m args below meth c Q C') : m_At E D ty i n0 z0 p l e R s m args below meth c Q (pc, lv, st, h) := by
  intro H locs ls hP hS hl
  obtain ⟨⟨hx, hb, hml, hown, hts⟩, hKn, hEx, hsz, hi, hini, hR⟩ := F
  obtain ⟨hdg, hI⟩ := m_ok_sp hok
  obtain ⟨e1, e2⟩ : len = 2 ∧ (m_oc i, q, a) ∈ m_pk := of_decide_eq_true hI
  subst e1
  rw [m_s_ldc] at hs
  cases hs
  exact lv_ldc hx hb hown (hts _ (m_pk_in e2)) hdg (k _ _ _ hP hS hl)
theorem k_ldc_w (F : m_Fix E D ty X i d n0 p R s m args meth c) {q : Nat} (hok : m_ok i pc (.ldc_w q, len, a, b) = true) (hs : m_stp X call (.ldc_w q, len, a, b) pc lv st h = some (.inl C'))
    (k : m_At E D ty i n0 z0 p l e R s m args below meth c Q C') : m_At E D ty i n0 z0 p l e R s m args below meth c Q (pc, lv, st, h) := by
  intro H locs ls hP hS hl
  obtain ⟨⟨hx, hb, hml, hown, hts⟩, hKn, hEx, hsz, hi, hini, hR⟩ := F
  obtain ⟨hdg, hI⟩ := m_ok_sp hok
  obtain ⟨e1, e2⟩ : len = 3 ∧ (m_oc i, q, a) ∈ m_pk := of_decide_eq_true hI
  subst e1
  rw [m_s_ldc_w] at hs
  cases hs
  exact lv_ldcw hx hb hown (hts _ (m_pk_in e2)) hdg (k _ _ _ hP hS hl)
theorem k_ldc2_w (F : m_Fix E D ty X i d n0 p R s m args meth c) {q : Nat} (hok : m_ok i pc (.ldc2_w q, len, a, b) = true) (hs : m_stp X call (.ldc2_w q, len, a, b) pc lv st h = some (.inl C'))
    (k : m_At E D ty i n0 z0 p l e R s m args below meth c Q C') : m_At E D ty i n0 z0 p l e R s m args below meth c Q (pc, lv, st, h) := by
  intro H locs ls hP hS hl
  obtain ⟨⟨hx, hb, hml, hown, hts⟩, hKn, hEx, hsz, hi, hini, hR⟩ := F
  obtain ⟨hdg, hI⟩ := m_ok_sp hok
  obtain ⟨e1, e2⟩ : len = 3 ∧ (m_oc i, q, a) ∈ m_pl := of_decide_eq_true hI
  subst e1
  rw [m_s_ldc2_w] at hs
  cases hs
  exact lv_ldc2 hx hb hown (hts _ (m_pl_in e2)) hdg (k _ _ _ hP hS hl)
theorem k_aconst_null (F : m_Fix E D ty X i d n0 p R s m args meth c) (hok : m_ok i pc (.aconst_null, len, a, b) = true) (hs : m_stp X call (.aconst_null, len, a, b) pc lv st h = some (.inl C'))
    (k : m_At E D ty i n0 z0 p l e R s m args below meth c Q C') : m_At E D ty i n0 z0 p l e R s m args below meth c Q (pc, lv, st, h) := by
  intro H locs ls hP hS hl
  obtain ⟨⟨hx, hb, hml, hown, hts⟩, hKn, hEx, hsz, hi, hini, hR⟩ := F
  obtain ⟨hdg, hI⟩ := m_ok_sp hok
  have e1 : len = 1 := of_decide_eq_true hI
  subst e1
  rw [m_s_aconst_null] at hs
  cases hs
  exact lv_null hx hb hdg (k _ _ _ hP hS hl)
theorem k_iload_n (F : m_Fix E D ty X i d n0 p R s m args meth c) {q : Fin 4} (hok : m_ok i pc (.iload_n q, len, a, b) = true) (hs : m_stp X call (.iload_n q, len, a, b) pc lv st h = some (.inl C'))
    (k : m_At E D ty i n0 z0 p l e R s m args below meth c Q C') : m_At E D ty i n0 z0 p l e R s m args below meth c Q (pc, lv, st, h) := by
  intro H locs ls hP hS hl
  obtain ⟨⟨hx, hb, hml, hown, hts⟩, hKn, hEx, hsz, hi, hini, hR⟩ := F
  obtain ⟨hdg, hI⟩ := m_ok_sp hok
  have e1 : len = 1 := of_decide_eq_true hI
  subst e1
  rw [m_s_iload_n] at hs
  split at hs
  · rename_i hg
    cases hs
    exact lv_iload_n hx hb hdg rfl (m_lat hl hg) (k _ _ _ hP hS hl)
  · cases hs
theorem k_iload (F : m_Fix E D ty X i d n0 p R s m args meth c) {q : Nat} (hok : m_ok i pc (.iload q, len, a, b) = true) (hs : m_stp X call (.iload q, len, a, b) pc lv st h = some (.inl C'))
    (k : m_At E D ty i n0 z0 p l e R s m args below meth c Q C') : m_At E D ty i n0 z0 p l e R s m args below meth c Q (pc, lv, st, h) := by
  intro H locs ls hP hS hl
  obtain ⟨⟨hx, hb, hml, hown, hts⟩, hKn, hEx, hsz, hi, hini, hR⟩ := F
  obtain ⟨hdg, hI⟩ := m_ok_sp hok
  have e1 : len = 2 := of_decide_eq_true hI
  subst e1
  rw [m_s_iload] at hs
  split at hs
  · rename_i hg
    cases hs
    exact lv_iload hx hb hdg (m_lat hl hg) (k _ _ _ hP hS hl)
  · cases hs
theorem k_lload_n (F : m_Fix E D ty X i d n0 p R s m args meth c) {q : Fin 4} (hok : m_ok i pc (.lload_n q, len, a, b) = true) (hs : m_stp X call (.lload_n q, len, a, b) pc lv st h = some (.inl C'))
    (k : m_At E D ty i n0 z0 p l e R s m args below meth c Q C') : m_At E D ty i n0 z0 p l e R s m args below meth c Q (pc, lv, st, h) := by
  intro H locs ls hP hS hl
  obtain ⟨⟨hx, hb, hml, hown, hts⟩, hKn, hEx, hsz, hi, hini, hR⟩ := F
  obtain ⟨hdg, hI⟩ := m_ok_sp hok
  have e1 : len = 1 := of_decide_eq_true hI
  subst e1
  rw [m_s_lload_n] at hs
  split at hs
  · rename_i hg
    cases hs
    exact lv_lload_n hx hb hdg rfl (m_lat hl hg) (k _ _ _ hP hS hl)
  · cases hs
theorem k_lload (F : m_Fix E D ty X i d n0 p R s m args meth c) {q : Nat} (hok : m_ok i pc (.lload q, len, a, b) = true) (hs : m_stp X call (.lload q, len, a, b) pc lv st h = some (.inl C'))
    (k : m_At E D ty i n0 z0 p l e R s m args below meth c Q C') : m_At E D ty i n0 z0 p l e R s m args below meth c Q (pc, lv, st, h) := by
  intro H locs ls hP hS hl
  obtain ⟨⟨hx, hb, hml, hown, hts⟩, hKn, hEx, hsz, hi, hini, hR⟩ := F
  obtain ⟨hdg, hI⟩ := m_ok_sp hok
  have e1 : len = 2 := of_decide_eq_true hI
  subst e1
  rw [m_s_lload] at hs
  split at hs
  · rename_i hg
    cases hs
    exact lv_lload hx hb hdg (m_lat hl hg) (k _ _ _ hP hS hl)
  · cases hs
theorem k_aload_n (F : m_Fix E D ty X i d n0 p R s m args meth c) {q : Fin 4} (hok : m_ok i pc (.aload_n q, len, a, b) = true) (hs : m_stp X call (.aload_n q, len, a, b) pc lv st h = some (.inl C'))
    (k : m_At E D ty i n0 z0 p l e R s m args below meth c Q C') : m_At E D ty i n0 z0 p l e R s m args below meth c Q (pc, lv, st, h) := by
  intro H locs ls hP hS hl
  obtain ⟨⟨hx, hb, hml, hown, hts⟩, hKn, hEx, hsz, hi, hini, hR⟩ := F
  obtain ⟨hdg, hI⟩ := m_ok_sp hok
  have e1 : len = 1 := of_decide_eq_true hI
  subst e1
  rw [m_s_aload_n] at hs
  split at hs
  · rename_i hg
    cases hs
    exact lv_aload_n hx hb hdg rfl (m_lat hl hg) (k _ _ _ hP hS hl)
  · rename_i hg
    cases hs
    exact lv_aload_nN hx hb hdg rfl (m_lat hl hg) (k _ _ _ hP hS hl)
  · cases hs
theorem k_aload (F : m_Fix E D ty X i d n0 p R s m args meth c) {q : Nat} (hok : m_ok i pc (.aload q, len, a, b) = true) (hs : m_stp X call (.aload q, len, a, b) pc lv st h = some (.inl C'))
    (k : m_At E D ty i n0 z0 p l e R s m args below meth c Q C') : m_At E D ty i n0 z0 p l e R s m args below meth c Q (pc, lv, st, h) := by
  intro H locs ls hP hS hl
  obtain ⟨⟨hx, hb, hml, hown, hts⟩, hKn, hEx, hsz, hi, hini, hR⟩ := F
  obtain ⟨hdg, hI⟩ := m_ok_sp hok
  have e1 : len = 2 := of_decide_eq_true hI
  subst e1
  rw [m_s_aload] at hs
  split at hs
  · rename_i hg
    cases hs
    exact lv_aload hx hb hdg (m_lat hl hg) (k _ _ _ hP hS hl)
  · rename_i hg
    cases hs
    exact lv_aloadN hx hb hdg (m_lat hl hg) (k _ _ _ hP hS hl)
  · cases hs
theorem k_istore_n (F : m_Fix E D ty X i d n0 p R s m args meth c) {q : Fin 4} (hok : m_ok i pc (.istore_n q, len, a, b) = true) (hs : m_stp X call (.istore_n q, len, a, b) pc lv st h = some (.inl C'))
    (k : m_At E D ty i n0 z0 p l e R s m args below meth c Q C') : m_At E D ty i n0 z0 p l e R s m args below meth c Q (pc, lv, st, h) := by
  intro H locs ls hP hS hl
  obtain ⟨⟨hx, hb, hml, hown, hts⟩, hKn, hEx, hsz, hi, hini, hR⟩ := F
  obtain ⟨hdg, hI⟩ := m_ok_sp hok
  obtain ⟨e1, e2⟩ : len = 1 ∧ q.val < m_nl i := of_decide_eq_true hI
  subst e1
  rw [m_s_istore_n] at hs
  split at hs
  · cases hs
    exact lv_istore_n hx hb hdg rfl hl e2 (m_st_map E lv q.val (.int _)) (fun ls' hl' => k _ _ _ hP hS hl')
  · cases hs
theorem k_istore (F : m_Fix E D ty X i d n0 p R s m args meth c) {q : Nat} (hok : m_ok i pc (.istore q, len, a, b) = true) (hs : m_stp X call (.istore q, len, a, b) pc lv st h = some (.inl C'))
    (k : m_At E D ty i n0 z0 p l e R s m args below meth c Q C') : m_At E D ty i n0 z0 p l e R s m args below meth c Q (pc, lv, st, h) := by
  intro H locs ls hP hS hl
  obtain ⟨⟨hx, hb, hml, hown, hts⟩, hKn, hEx, hsz, hi, hini, hR⟩ := F
  obtain ⟨hdg, hI⟩ := m_ok_sp hok
  obtain ⟨e1, e2⟩ : len = 2 ∧ q < m_nl i := of_decide_eq_true hI
  subst e1
  rw [m_s_istore] at hs
  split at hs
  · cases hs
    exact lv_istore hx hb hdg hl e2 (m_st_map E lv q (.int _)) (fun ls' hl' => k _ _ _ hP hS hl')
  · cases hs
theorem k_astore_n (F : m_Fix E D ty X i d n0 p R s m args meth c) {q : Fin 4} (hok : m_ok i pc (.astore_n q, len, a, b) = true) (hs : m_stp X call (.astore_n q, len, a, b) pc lv st h = some (.inl C'))
    (k : m_At E D ty i n0 z0 p l e R s m args below meth c Q C') : m_At E D ty i n0 z0 p l e R s m args below meth c Q (pc, lv, st, h) := by
  intro H locs ls hP hS hl
  obtain ⟨⟨hx, hb, hml, hown, hts⟩, hKn, hEx, hsz, hi, hini, hR⟩ := F
  obtain ⟨hdg, hI⟩ := m_ok_sp hok
  obtain ⟨e1, e2⟩ : len = 1 ∧ q.val < m_nl i := of_decide_eq_true hI
  subst e1
  rw [m_s_astore_n] at hs
  split at hs
  · cases hs
    exact lv_astore_n hx hb hdg rfl hl e2 (m_st_map E lv q.val (.ref _)) (fun ls' hl' => k _ _ _ hP hS hl')
  · cases hs
    exact lv_astore_nN hx hb hdg rfl hl e2 (m_st_map E lv q.val .null) (fun ls' hl' => k _ _ _ hP hS hl')
  · cases hs
theorem k_astore (F : m_Fix E D ty X i d n0 p R s m args meth c) {q : Nat} (hok : m_ok i pc (.astore q, len, a, b) = true) (hs : m_stp X call (.astore q, len, a, b) pc lv st h = some (.inl C'))
    (k : m_At E D ty i n0 z0 p l e R s m args below meth c Q C') : m_At E D ty i n0 z0 p l e R s m args below meth c Q (pc, lv, st, h) := by
  intro H locs ls hP hS hl
  obtain ⟨⟨hx, hb, hml, hown, hts⟩, hKn, hEx, hsz, hi, hini, hR⟩ := F
  obtain ⟨hdg, hI⟩ := m_ok_sp hok
  obtain ⟨e1, e2⟩ : len = 2 ∧ q < m_nl i := of_decide_eq_true hI
  subst e1
  rw [m_s_astore] at hs
  split at hs
  · cases hs
    exact lv_astore hx hb hdg hl e2 (m_st_map E lv q (.ref _)) (fun ls' hl' => k _ _ _ hP hS hl')
  · cases hs
    exact lv_astoreN hx hb hdg hl e2 (m_st_map E lv q .null) (fun ls' hl' => k _ _ _ hP hS hl')
  · cases hs
theorem k_iinc (F : m_Fix E D ty X i d n0 p R s m args meth c) {q : Nat} {q2 : Int} (hok : m_ok i pc (.iinc q q2, len, a, b) = true) (hs : m_stp X call (.iinc q q2, len, a, b) pc lv st h = some (.inl C'))
    (k : m_At E D ty i n0 z0 p l e R s m args below meth c Q C') : m_At E D ty i n0 z0 p l e R s m args below meth c Q (pc, lv, st, h) := by
  intro H locs ls hP hS hl
  obtain ⟨⟨hx, hb, hml, hown, hts⟩, hKn, hEx, hsz, hi, hini, hR⟩ := F
  obtain ⟨hdg, hI⟩ := m_ok_sp hok
  obtain ⟨e1, e2⟩ : len = 3 ∧ q < m_nl i := of_decide_eq_true hI
  subst e1
  rw [m_s_iinc] at hs
  split at hs
  · rename_i hg
    cases hs
    obtain ⟨k1, hk1⟩ := m_lmem (E := E) hg
    exact lv_iinc hx hb hdg hl hk1 rfl e2 (m_st_map E lv q (.int _)) (fun ls' hl' => k _ _ _ hP hS hl')
  · cases hs
theorem k_iadd (F : m_Fix E D ty X i d n0 p R s m args meth c) (hok : m_ok i pc (.iadd, len, a, b) = true) (hs : m_stp X call (.iadd, len, a, b) pc lv st h = some (.inl C'))
    (k : m_At E D ty i n0 z0 p l e R s m args below meth c Q C') : m_At E D ty i n0 z0 p l e R s m args below meth c Q (pc, lv, st, h) := by
  intro H locs ls hP hS hl
  obtain ⟨⟨hx, hb, hml, hown, hts⟩, hKn, hEx, hsz, hi, hini, hR⟩ := F
  obtain ⟨hdg, hI⟩ := m_ok_sp hok
  have e1 : len = 1 := of_decide_eq_true hI
  subst e1
  rw [m_s_iadd] at hs
  split at hs
  · cases hs
    exact lv_iadd hx hb hdg (k _ _ _ hP hS hl)
  · cases hs
theorem k_isub (F : m_Fix E D ty X i d n0 p R s m args meth c) (hok : m_ok i pc (.isub, len, a, b) = true) (hs : m_stp X call (.isub, len, a, b) pc lv st h = some (.inl C'))
    (k : m_At E D ty i n0 z0 p l e R s m args below meth c Q C') : m_At E D ty i n0 z0 p l e R s m args below meth c Q (pc, lv, st, h) := by
  intro H locs ls hP hS hl
  obtain ⟨⟨hx, hb, hml, hown, hts⟩, hKn, hEx, hsz, hi, hini, hR⟩ := F
  obtain ⟨hdg, hI⟩ := m_ok_sp hok
  have e1 : len = 1 := of_decide_eq_true hI
  subst e1
  rw [m_s_isub] at hs
  split at hs
  · cases hs
    exact lv_isub hx hb hdg (k _ _ _ hP hS hl)
  · cases hs
theorem k_imul (F : m_Fix E D ty X i d n0 p R s m args meth c) (hok : m_ok i pc (.imul, len, a, b) = true) (hs : m_stp X call (.imul, len, a, b) pc lv st h = some (.inl C'))
    (k : m_At E D ty i n0 z0 p l e R s m args below meth c Q C') : m_At E D ty i n0 z0 p l e R s m args below meth c Q (pc, lv, st, h) := by
  intro H locs ls hP hS hl
  obtain ⟨⟨hx, hb, hml, hown, hts⟩, hKn, hEx, hsz, hi, hini, hR⟩ := F
  obtain ⟨hdg, hI⟩ := m_ok_sp hok
  have e1 : len = 1 := of_decide_eq_true hI
  subst e1
  rw [m_s_imul] at hs
  split at hs
  · cases hs
    exact lv_imul hx hb hdg (k _ _ _ hP hS hl)
  · cases hs
theorem k_iand (F : m_Fix E D ty X i d n0 p R s m args meth c) (hok : m_ok i pc (.iand, len, a, b) = true) (hs : m_stp X call (.iand, len, a, b) pc lv st h = some (.inl C'))
    (k : m_At E D ty i n0 z0 p l e R s m args below meth c Q C') : m_At E D ty i n0 z0 p l e R s m args below meth c Q (pc, lv, st, h) := by
  intro H locs ls hP hS hl
  obtain ⟨⟨hx, hb, hml, hown, hts⟩, hKn, hEx, hsz, hi, hini, hR⟩ := F
  obtain ⟨hdg, hI⟩ := m_ok_sp hok
  have e1 : len = 1 := of_decide_eq_true hI
  subst e1
  rw [m_s_iand] at hs
  split at hs
  · cases hs
    exact lv_iand hx hb hdg (k _ _ _ hP hS hl)
  · cases hs
theorem k_ior (F : m_Fix E D ty X i d n0 p R s m args meth c) (hok : m_ok i pc (.ior, len, a, b) = true) (hs : m_stp X call (.ior, len, a, b) pc lv st h = some (.inl C'))
    (k : m_At E D ty i n0 z0 p l e R s m args below meth c Q C') : m_At E D ty i n0 z0 p l e R s m args below meth c Q (pc, lv, st, h) := by
  intro H locs ls hP hS hl
  obtain ⟨⟨hx, hb, hml, hown, hts⟩, hKn, hEx, hsz, hi, hini, hR⟩ := F
  obtain ⟨hdg, hI⟩ := m_ok_sp hok
  have e1 : len = 1 := of_decide_eq_true hI
  subst e1
  rw [m_s_ior] at hs
  split at hs
  · cases hs
    exact lv_ior hx hb hdg (k _ _ _ hP hS hl)
  · cases hs
theorem k_ixor (F : m_Fix E D ty X i d n0 p R s m args meth c) (hok : m_ok i pc (.ixor, len, a, b) = true) (hs : m_stp X call (.ixor, len, a, b) pc lv st h = some (.inl C'))
    (k : m_At E D ty i n0 z0 p l e R s m args below meth c Q C') : m_At E D ty i n0 z0 p l e R s m args below meth c Q (pc, lv, st, h) := by
  intro H locs ls hP hS hl
  obtain ⟨⟨hx, hb, hml, hown, hts⟩, hKn, hEx, hsz, hi, hini, hR⟩ := F
  obtain ⟨hdg, hI⟩ := m_ok_sp hok
  have e1 : len = 1 := of_decide_eq_true hI
  subst e1
  rw [m_s_ixor] at hs
  split at hs
  · cases hs
    exact lv_ixor hx hb hdg (k _ _ _ hP hS hl)
  · cases hs
theorem k_ishl (F : m_Fix E D ty X i d n0 p R s m args meth c) (hok : m_ok i pc (.ishl, len, a, b) = true) (hs : m_stp X call (.ishl, len, a, b) pc lv st h = some (.inl C'))
    (k : m_At E D ty i n0 z0 p l e R s m args below meth c Q C') : m_At E D ty i n0 z0 p l e R s m args below meth c Q (pc, lv, st, h) := by
  intro H locs ls hP hS hl
  obtain ⟨⟨hx, hb, hml, hown, hts⟩, hKn, hEx, hsz, hi, hini, hR⟩ := F
  obtain ⟨hdg, hI⟩ := m_ok_sp hok
  have e1 : len = 1 := of_decide_eq_true hI
  subst e1
  rw [m_s_ishl] at hs
  split at hs
  · cases hs
    exact lv_ishl hx hb hdg (k _ _ _ hP hS hl)
  · cases hs
theorem k_ishr (F : m_Fix E D ty X i d n0 p R s m args meth c) (hok : m_ok i pc (.ishr, len, a, b) = true) (hs : m_stp X call (.ishr, len, a, b) pc lv st h = some (.inl C'))
    (k : m_At E D ty i n0 z0 p l e R s m args below meth c Q C') : m_At E D ty i n0 z0 p l e R s m args below meth c Q (pc, lv, st, h) := by
  intro H locs ls hP hS hl
  obtain ⟨⟨hx, hb, hml, hown, hts⟩, hKn, hEx, hsz, hi, hini, hR⟩ := F
  obtain ⟨hdg, hI⟩ := m_ok_sp hok
  have e1 : len = 1 := of_decide_eq_true hI
  subst e1
  rw [m_s_ishr] at hs
  split at hs
  · cases hs
    exact lv_ishr hx hb hdg (k _ _ _ hP hS hl)
  · cases hs
theorem k_land (F : m_Fix E D ty X i d n0 p R s m args meth c) (hok : m_ok i pc (.land, len, a, b) = true) (hs : m_stp X call (.land, len, a, b) pc lv st h = some (.inl C'))
    (k : m_At E D ty i n0 z0 p l e R s m args below meth c Q C') : m_At E D ty i n0 z0 p l e R s m args below meth c Q (pc, lv, st, h) := by
  intro H locs ls hP hS hl
  obtain ⟨⟨hx, hb, hml, hown, hts⟩, hKn, hEx, hsz, hi, hini, hR⟩ := F
  obtain ⟨hdg, hI⟩ := m_ok_sp hok
  have e1 : len = 1 := of_decide_eq_true hI
  subst e1
  rw [m_s_land] at hs
  split at hs
  · cases hs
    exact lv_land hx hb hdg (k _ _ _ hP hS hl)
  · cases hs
theorem k_lor (F : m_Fix E D ty X i d n0 p R s m args meth c) (hok : m_ok i pc (.lor, len, a, b) = true) (hs : m_stp X call (.lor, len, a, b) pc lv st h = some (.inl C'))
    (k : m_At E D ty i n0 z0 p l e R s m args below meth c Q C') : m_At E D ty i n0 z0 p l e R s m args below meth c Q (pc, lv, st, h) := by
  intro H locs ls hP hS hl
  obtain ⟨⟨hx, hb, hml, hown, hts⟩, hKn, hEx, hsz, hi, hini, hR⟩ := F
  obtain ⟨hdg, hI⟩ := m_ok_sp hok
  have e1 : len = 1 := of_decide_eq_true hI
  subst e1
  rw [m_s_lor] at hs
  split at hs
  · cases hs
    exact lv_lor hx hb hdg (k _ _ _ hP hS hl)
  · cases hs
theorem k_ineg (F : m_Fix E D ty X i d n0 p R s m args meth c) (hok : m_ok i pc (.ineg, len, a, b) = true) (hs : m_stp X call (.ineg, len, a, b) pc lv st h = some (.inl C'))
    (k : m_At E D ty i n0 z0 p l e R s m args below meth c Q C') : m_At E D ty i n0 z0 p l e R s m args below meth c Q (pc, lv, st, h) := by
  intro H locs ls hP hS hl
  obtain ⟨⟨hx, hb, hml, hown, hts⟩, hKn, hEx, hsz, hi, hini, hR⟩ := F
  obtain ⟨hdg, hI⟩ := m_ok_sp hok
  have e1 : len = 1 := of_decide_eq_true hI
  subst e1
  rw [m_s_ineg] at hs
  split at hs
  · cases hs
    exact lv_ineg hx hb hdg (k _ _ _ hP hS hl)
  · cases hs
theorem k_iushr (F : m_Fix E D ty X i d n0 p R s m args meth c) (hok : m_ok i pc (.iushr, len, a, b) = true) (hs : m_stp X call (.iushr, len, a, b) pc lv st h = some (.inl C'))
    (k : m_At E D ty i n0 z0 p l e R s m args below meth c Q C') : m_At E D ty i n0 z0 p l e R s m args below meth c Q (pc, lv, st, h) := by
  intro H locs ls hP hS hl
  obtain ⟨⟨hx, hb, hml, hown, hts⟩, hKn, hEx, hsz, hi, hini, hR⟩ := F
  obtain ⟨hdg, hI⟩ := m_ok_sp hok
  have e1 : len = 1 := of_decide_eq_true hI
  subst e1
  rw [m_s_iushr] at hs
  split at hs
  · cases hs
    exact lv_iushr hx hb hdg rfl (k _ _ _ hP hS hl)
  · cases hs
theorem k_lshl (F : m_Fix E D ty X i d n0 p R s m args meth c) (hok : m_ok i pc (.lshl, len, a, b) = true) (hs : m_stp X call (.lshl, len, a, b) pc lv st h = some (.inl C'))
    (k : m_At E D ty i n0 z0 p l e R s m args below meth c Q C') : m_At E D ty i n0 z0 p l e R s m args below meth c Q (pc, lv, st, h) := by
  intro H locs ls hP hS hl
  obtain ⟨⟨hx, hb, hml, hown, hts⟩, hKn, hEx, hsz, hi, hini, hR⟩ := F
  obtain ⟨hdg, hI⟩ := m_ok_sp hok
  have e1 : len = 1 := of_decide_eq_true hI
  subst e1
  rw [m_s_lshl] at hs
  split at hs
  · cases hs
    exact lv_lshl hx hb hdg rfl (k _ _ _ hP hS hl)
  · cases hs
theorem k_lshr (F : m_Fix E D ty X i d n0 p R s m args meth c) (hok : m_ok i pc (.lshr, len, a, b) = true) (hs : m_stp X call (.lshr, len, a, b) pc lv st h = some (.inl C'))
    (k : m_At E D ty i n0 z0 p l e R s m args below meth c Q C') : m_At E D ty i n0 z0 p l e R s m args below meth c Q (pc, lv, st, h) := by
  intro H locs ls hP hS hl
  obtain ⟨⟨hx, hb, hml, hown, hts⟩, hKn, hEx, hsz, hi, hini, hR⟩ := F
  obtain ⟨hdg, hI⟩ := m_ok_sp hok
  have e1 : len = 1 := of_decide_eq_true hI
  subst e1
  rw [m_s_lshr] at hs
  split at hs
  · cases hs
    exact lv_lshr hx hb hdg rfl (k _ _ _ hP hS hl)
  · cases hs
theorem k_lushr (F : m_Fix E D ty X i d n0 p R s m args meth c) (hok : m_ok i pc (.lushr, len, a, b) = true) (hs : m_stp X call (.lushr, len, a, b) pc lv st h = some (.inl C'))
    (k : m_At E D ty i n0 z0 p l e R s m args below meth c Q C') : m_At E D ty i n0 z0 p l e R s m args below meth c Q (pc, lv, st, h) := by
  intro H locs ls hP hS hl
  obtain ⟨⟨hx, hb, hml, hown, hts⟩, hKn, hEx, hsz, hi, hini, hR⟩ := F
  obtain ⟨hdg, hI⟩ := m_ok_sp hok
  have e1 : len = 1 := of_decide_eq_true hI
  subst e1
  rw [m_s_lushr] at hs
  split at hs
  · cases hs
    exact lv_lushr hx hb hdg rfl (k _ _ _ hP hS hl)
  · cases hs
theorem k_i2l (F : m_Fix E D ty X i d n0 p R s m args meth c) (hok : m_ok i pc (.i2l, len, a, b) = true) (hs : m_stp X call (.i2l, len, a, b) pc lv st h = some (.inl C'))
    (k : m_At E D ty i n0 z0 p l e R s m args below meth c Q C') : m_At E D ty i n0 z0 p l e R s m args below meth c Q (pc, lv, st, h) := by
  intro H locs ls hP hS hl
  obtain ⟨⟨hx, hb, hml, hown, hts⟩, hKn, hEx, hsz, hi, hini, hR⟩ := F
  obtain ⟨hdg, hI⟩ := m_ok_sp hok
  have e1 : len = 1 := of_decide_eq_true hI
  subst e1
  rw [m_s_i2l] at hs
  split at hs
  · cases hs
    exact lv_i2l hx hb hdg rfl (k _ _ _ hP hS hl)
  · cases hs
theorem k_l2i (F : m_Fix E D ty X i d n0 p R s m args meth c) (hok : m_ok i pc (.l2i, len, a, b) = true) (hs : m_stp X call (.l2i, len, a, b) pc lv st h = some (.inl C'))
    (k : m_At E D ty i n0 z0 p l e R s m args below meth c Q C') : m_At E D ty i n0 z0 p l e R s m args below meth c Q (pc, lv, st, h) := by
  intro H locs ls hP hS hl
  obtain ⟨⟨hx, hb, hml, hown, hts⟩, hKn, hEx, hsz, hi, hini, hR⟩ := F
  obtain ⟨hdg, hI⟩ := m_ok_sp hok
  have e1 : len = 1 := of_decide_eq_true hI
  subst e1
  rw [m_s_l2i] at hs
  split at hs
  · cases hs
    exact lv_l2i hx hb hdg rfl (k _ _ _ hP hS hl)
  · cases hs
theorem k_idiv (F : m_Fix E D ty X i d n0 p R s m args meth c) (hok : m_ok i pc (.idiv, len, a, b) = true) (hs : m_stp X call (.idiv, len, a, b) pc lv st h = some (.inl C'))
    (k : m_At E D ty i n0 z0 p l e R s m args below meth c Q C') : m_At E D ty i n0 z0 p l e R s m args below meth c Q (pc, lv, st, h) := by
  intro H locs ls hP hS hl
  obtain ⟨⟨hx, hb, hml, hown, hts⟩, hKn, hEx, hsz, hi, hini, hR⟩ := F
  obtain ⟨hdg, hI⟩ := m_ok_sp hok
  have e1 : len = 1 := of_decide_eq_true hI
  subst e1
  rw [m_s_idiv] at hs
  split at hs
  · split at hs
    · cases hs
    · rename_i h1
      cases hs
      exact lv_idiv hx hb hdg h1 (k _ _ _ hP hS hl)
  · cases hs
theorem k_irem (F : m_Fix E D ty X i d n0 p R s m args meth c) (hok : m_ok i pc (.irem, len, a, b) = true) (hs : m_stp X call (.irem, len, a, b) pc lv st h = some (.inl C'))
    (k : m_At E D ty i n0 z0 p l e R s m args below meth c Q C') : m_At E D ty i n0 z0 p l e R s m args below meth c Q (pc, lv, st, h) := by
  intro H locs ls hP hS hl
  obtain ⟨⟨hx, hb, hml, hown, hts⟩, hKn, hEx, hsz, hi, hini, hR⟩ := F
  obtain ⟨hdg, hI⟩ := m_ok_sp hok
  have e1 : len = 1 := of_decide_eq_true hI
  subst e1
  rw [m_s_irem] at hs
  split at hs
  · split at hs
    · cases hs
    · rename_i h1
      cases hs
      exact lv_irem hx hb hdg h1 (k _ _ _ hP hS hl)
  · cases hs
theorem k_dup (F : m_Fix E D ty X i d n0 p R s m args meth c) (hok : m_ok i pc (.dup, len, a, b) = true) (hs : m_stp X call (.dup, len, a, b) pc lv st h = some (.inl C'))
    (k : m_At E D ty i n0 z0 p l e R s m args below meth c Q C') : m_At E D ty i n0 z0 p l e R s m args below meth c Q (pc, lv, st, h) := by
  intro H locs ls hP hS hl
  obtain ⟨⟨hx, hb, hml, hown, hts⟩, hKn, hEx, hsz, hi, hini, hR⟩ := F
  obtain ⟨hdg, hI⟩ := m_ok_sp hok
  have e1 : len = 1 := of_decide_eq_true hI
  subst e1
  rw [m_s_dup] at hs
  split at hs
  · cases hs
    exact lv_dup hx hb hdg rfl (k _ _ _ hP hS hl)
  · cases hs
    exact lv_dup hx hb hdg rfl (k _ _ _ hP hS hl)
  · cases hs
theorem k_dup2 (F : m_Fix E D ty X i d n0 p R s m args meth c) (hok : m_ok i pc (.dup2, len, a, b) = true) (hs : m_stp X call (.dup2, len, a, b) pc lv st h = some (.inl C'))
    (k : m_At E D ty i n0 z0 p l e R s m args below meth c Q C') : m_At E D ty i n0 z0 p l e R s m args below meth c Q (pc, lv, st, h) := by
  intro H locs ls hP hS hl
  obtain ⟨⟨hx, hb, hml, hown, hts⟩, hKn, hEx, hsz, hi, hini, hR⟩ := F
  obtain ⟨hdg, hI⟩ := m_ok_sp hok
  have e1 : len = 1 := of_decide_eq_true hI
  subst e1
  rw [m_s_dup2] at hs
  split at hs
  · cases hs
    exact lv_dup2_11 hx hb hdg rfl rfl (k _ _ _ hP hS hl)
  · cases hs
theorem k_pop (F : m_Fix E D ty X i d n0 p R s m args meth c) (hok : m_ok i pc (.pop, len, a, b) = true) (hs : m_stp X call (.pop, len, a, b) pc lv st h = some (.inl C'))
    (k : m_At E D ty i n0 z0 p l e R s m args below meth c Q C') : m_At E D ty i n0 z0 p l e R s m args below meth c Q (pc, lv, st, h) := by
  intro H locs ls hP hS hl
  obtain ⟨⟨hx, hb, hml, hown, hts⟩, hKn, hEx, hsz, hi, hini, hR⟩ := F
  obtain ⟨hdg, hI⟩ := m_ok_sp hok
  have e1 : len = 1 := of_decide_eq_true hI
  subst e1
  rw [m_s_pop] at hs
  split at hs
  · cases hs
    exact lv_pop hx hb hdg rfl (k _ _ _ hP hS hl)
  · cases hs
theorem k_ifCond_eq (F : m_Fix E D ty X i d n0 p R s m args meth c) {q : Int} (hok : m_ok i pc (.ifCond .eq q, len, a, b) = true) (hs : m_stp X call (.ifCond .eq q, len, a, b) pc lv st h = some (.inl C'))
    (k : m_At E D ty i n0 z0 p l e R s m args below meth c Q C') : m_At E D ty i n0 z0 p l e R s m args below meth c Q (pc, lv, st, h) := by
  intro H locs ls hP hS hl
  obtain ⟨⟨hx, hb, hml, hown, hts⟩, hKn, hEx, hsz, hi, hini, hR⟩ := F
  obtain ⟨hdg, hI⟩ := m_ok_sp hok
  obtain ⟨e1, e2⟩ : len = 3 ∧ (pc : Int) + q = ((a.toNat : Nat) : Int) := of_decide_eq_true hI
  subst e1
  rw [m_s_ifCond_eq] at hs
  split at hs
  · refine lv_if_eq hx hb hdg e2 (fun h1 => ?_) (fun h1 => ?_)
    · rw [if_pos h1] at hs
      cases hs
      exact k _ _ _ hP hS hl
    · rw [if_neg h1] at hs
      cases hs
      exact k _ _ _ hP hS hl
  · cases hs
theorem k_if_icmp_eq (F : m_Fix E D ty X i d n0 p R s m args meth c) {q : Int} (hok : m_ok i pc (.if_icmp .eq q, len, a, b) = true) (hs : m_stp X call (.if_icmp .eq q, len, a, b) pc lv st h = some (.inl C'))
    (k : m_At E D ty i n0 z0 p l e R s m args below meth c Q C') : m_At E D ty i n0 z0 p l e R s m args below meth c Q (pc, lv, st, h) := by
  intro H locs ls hP hS hl
  obtain ⟨⟨hx, hb, hml, hown, hts⟩, hKn, hEx, hsz, hi, hini, hR⟩ := F
  obtain ⟨hdg, hI⟩ := m_ok_sp hok
  obtain ⟨e1, e2⟩ : len = 3 ∧ (pc : Int) + q = ((a.toNat : Nat) : Int) := of_decide_eq_true hI
  subst e1
  rw [m_s_if_icmp_eq] at hs
  split at hs
  · refine lv_icmp_eq hx hb hdg e2 (fun h1 => ?_) (fun h1 => ?_)
    · rw [if_pos h1] at hs
      cases hs
      exact k _ _ _ hP hS hl
    · rw [if_neg h1] at hs
      cases hs
      exact k _ _ _ hP hS hl
  · cases hs
theorem k_ifCond_ne (F : m_Fix E D ty X i d n0 p R s m args meth c) {q : Int} (hok : m_ok i pc (.ifCond .ne q, len, a, b) = true) (hs : m_stp X call (.ifCond .ne q, len, a, b) pc lv st h = some (.inl C'))
    (k : m_At E D ty i n0 z0 p l e R s m args below meth c Q C') : m_At E D ty i n0 z0 p l e R s m args below meth c Q (pc, lv, st, h) := by
  intro H locs ls hP hS hl
  obtain ⟨⟨hx, hb, hml, hown, hts⟩, hKn, hEx, hsz, hi, hini, hR⟩ := F
  obtain ⟨hdg, hI⟩ := m_ok_sp hok
  obtain ⟨e1, e2⟩ : len = 3 ∧ (pc : Int) + q = ((a.toNat : Nat) : Int) := of_decide_eq_true hI
  subst e1
  rw [m_s_ifCond_ne] at hs
  split at hs
  · refine lv_if_ne hx hb hdg e2 (fun h1 => ?_) (fun h1 => ?_)
    · rw [if_neg h1] at hs
      cases hs
      exact k _ _ _ hP hS hl
    · rw [if_pos h1] at hs
      cases hs
      exact k _ _ _ hP hS hl
  · cases hs
theorem k_if_icmp_ne (F : m_Fix E D ty X i d n0 p R s m args meth c) {q : Int} (hok : m_ok i pc (.if_icmp .ne q, len, a, b) = true) (hs : m_stp X call (.if_icmp .ne q, len, a, b) pc lv st h = some (.inl C'))
    (k : m_At E D ty i n0 z0 p l e R s m args below meth c Q C') : m_At E D ty i n0 z0 p l e R s m args below meth c Q (pc, lv, st, h) := by
  intro H locs ls hP hS hl
  obtain ⟨⟨hx, hb, hml, hown, hts⟩, hKn, hEx, hsz, hi, hini, hR⟩ := F
  obtain ⟨hdg, hI⟩ := m_ok_sp hok
  obtain ⟨e1, e2⟩ : len = 3 ∧ (pc : Int) + q = ((a.toNat : Nat) : Int) := of_decide_eq_true hI
  subst e1
  rw [m_s_if_icmp_ne] at hs
  split at hs
  · refine lv_icmp_ne hx hb hdg e2 (fun h1 => ?_) (fun h1 => ?_)
    · rw [if_neg h1] at hs
      cases hs
      exact k _ _ _ hP hS hl
    · rw [if_pos h1] at hs
      cases hs
      exact k _ _ _ hP hS hl
  · cases hs
theorem k_ifCond_lt (F : m_Fix E D ty X i d n0 p R s m args meth c) {q : Int} (hok : m_ok i pc (.ifCond .lt q, len, a, b) = true) (hs : m_stp X call (.ifCond .lt q, len, a, b) pc lv st h = some (.inl C'))
    (k : m_At E D ty i n0 z0 p l e R s m args below meth c Q C') : m_At E D ty i n0 z0 p l e R s m args below meth c Q (pc, lv, st, h) := by
  intro H locs ls hP hS hl
  obtain ⟨⟨hx, hb, hml, hown, hts⟩, hKn, hEx, hsz, hi, hini, hR⟩ := F
  obtain ⟨hdg, hI⟩ := m_ok_sp hok
  obtain ⟨e1, e2⟩ : len = 3 ∧ (pc : Int) + q = ((a.toNat : Nat) : Int) := of_decide_eq_true hI
  subst e1
  rw [m_s_ifCond_lt] at hs
  split at hs
  · refine lv_if_lt hx hb hdg e2 (fun h1 => ?_) (fun h1 => ?_)
    · rw [if_pos h1] at hs
      cases hs
      exact k _ _ _ hP hS hl
    · rw [if_neg h1] at hs
      cases hs
      exact k _ _ _ hP hS hl
  · cases hs
theorem k_if_icmp_lt (F : m_Fix E D ty X i d n0 p R s m args meth c) {q : Int} (hok : m_ok i pc (.if_icmp .lt q, len, a, b) = true) (hs : m_stp X call (.if_icmp .lt q, len, a, b) pc lv st h = some (.inl C'))
    (k : m_At E D ty i n0 z0 p l e R s m args below meth c Q C') : m_At E D ty i n0 z0 p l e R s m args below meth c Q (pc, lv, st, h) := by
  intro H locs ls hP hS hl
  obtain ⟨⟨hx, hb, hml, hown, hts⟩, hKn, hEx, hsz, hi, hini, hR⟩ := F
  obtain ⟨hdg, hI⟩ := m_ok_sp hok
  obtain ⟨e1, e2⟩ : len = 3 ∧ (pc : Int) + q = ((a.toNat : Nat) : Int) := of_decide_eq_true hI
  subst e1
  rw [m_s_if_icmp_lt] at hs
  split at hs
  · refine lv_icmp_lt hx hb hdg e2 (fun h1 => ?_) (fun h1 => ?_)
    · rw [if_pos h1] at hs
      cases hs
      exact k _ _ _ hP hS hl
    · rw [if_neg h1] at hs
      cases hs
      exact k _ _ _ hP hS hl
  · cases hs
theorem k_ifCond_ge (F : m_Fix E D ty X i d n0 p R s m args meth c) {q : Int} (hok : m_ok i pc (.ifCond .ge q, len, a, b) = true) (hs : m_stp X call (.ifCond .ge q, len, a, b) pc lv st h = some (.inl C'))
    (k : m_At E D ty i n0 z0 p l e R s m args below meth c Q C') : m_At E D ty i n0 z0 p l e R s m args below meth c Q (pc, lv, st, h) := by
  intro H locs ls hP hS hl
  obtain ⟨⟨hx, hb, hml, hown, hts⟩, hKn, hEx, hsz, hi, hini, hR⟩ := F
  obtain ⟨hdg, hI⟩ := m_ok_sp hok
  obtain ⟨e1, e2⟩ : len = 3 ∧ (pc : Int) + q = ((a.toNat : Nat) : Int) := of_decide_eq_true hI
  subst e1
  rw [m_s_ifCond_ge] at hs
  split at hs
  · refine lv_if_ge hx hb hdg e2 (fun h1 => ?_) (fun h1 => ?_)
    · rw [if_pos h1] at hs
      cases hs
      exact k _ _ _ hP hS hl
    · rw [if_neg h1] at hs
      cases hs
      exact k _ _ _ hP hS hl
  · cases hs
theorem k_if_icmp_ge (F : m_Fix E D ty X i d n0 p R s m args meth c) {q : Int} (hok : m_ok i pc (.if_icmp .ge q, len, a, b) = true) (hs : m_stp X call (.if_icmp .ge q, len, a, b) pc lv st h = some (.inl C'))
    (k : m_At E D ty i n0 z0 p l e R s m args below meth c Q C') : m_At E D ty i n0 z0 p l e R s m args below meth c Q (pc, lv, st, h) := by
  intro H locs ls hP hS hl
  obtain ⟨⟨hx, hb, hml, hown, hts⟩, hKn, hEx, hsz, hi, hini, hR⟩ := F
  obtain ⟨hdg, hI⟩ := m_ok_sp hok
  obtain ⟨e1, e2⟩ : len = 3 ∧ (pc : Int) + q = ((a.toNat : Nat) : Int) := of_decide_eq_true hI
  subst e1
  rw [m_s_if_icmp_ge] at hs
  split at hs
  · refine lv_icmp_ge hx hb hdg e2 (fun h1 => ?_) (fun h1 => ?_)
    · rw [if_pos h1] at hs
      cases hs
      exact k _ _ _ hP hS hl
    · rw [if_neg h1] at hs
      cases hs
      exact k _ _ _ hP hS hl
  · cases hs
theorem k_ifCond_gt (F : m_Fix E D ty X i d n0 p R s m args meth c) {q : Int} (hok : m_ok i pc (.ifCond .gt q, len, a, b) = true) (hs : m_stp X call (.ifCond .gt q, len, a, b) pc lv st h = some (.inl C'))
    (k : m_At E D ty i n0 z0 p l e R s m args below meth c Q C') : m_At E D ty i n0 z0 p l e R s m args below meth c Q (pc, lv, st, h) := by
  intro H locs ls hP hS hl
  obtain ⟨⟨hx, hb, hml, hown, hts⟩, hKn, hEx, hsz, hi, hini, hR⟩ := F
  obtain ⟨hdg, hI⟩ := m_ok_sp hok
  obtain ⟨e1, e2⟩ : len = 3 ∧ (pc : Int) + q = ((a.toNat : Nat) : Int) := of_decide_eq_true hI
  subst e1
  rw [m_s_ifCond_gt] at hs
  split at hs
  · refine lv_if_gt hx hb hdg e2 (fun h1 => ?_) (fun h1 => ?_)
    · rw [if_pos h1] at hs
      cases hs
      exact k _ _ _ hP hS hl
    · rw [if_neg h1] at hs
      cases hs
      exact k _ _ _ hP hS hl
  · cases hs
theorem k_if_icmp_gt (F : m_Fix E D ty X i d n0 p R s m args meth c) {q : Int} (hok : m_ok i pc (.if_icmp .gt q, len, a, b) = true) (hs : m_stp X call (.if_icmp .gt q, len, a, b) pc lv st h = some (.inl C'))
    (k : m_At E D ty i n0 z0 p l e R s m args below meth c Q C') : m_At E D ty i n0 z0 p l e R s m args below meth c Q (pc, lv, st, h) := by
  intro H locs ls hP hS hl
  obtain ⟨⟨hx, hb, hml, hown, hts⟩, hKn, hEx, hsz, hi, hini, hR⟩ := F
  obtain ⟨hdg, hI⟩ := m_ok_sp hok
  obtain ⟨e1, e2⟩ : len = 3 ∧ (pc : Int) + q = ((a.toNat : Nat) : Int) := of_decide_eq_true hI
  subst e1
  rw [m_s_if_icmp_gt] at hs
  split at hs
  · refine lv_icmp_gt hx hb hdg e2 (fun h1 => ?_) (fun h1 => ?_)
    · rw [if_pos h1] at hs
      cases hs
      exact k _ _ _ hP hS hl
    · rw [if_neg h1] at hs
      cases hs
      exact k _ _ _ hP hS hl
  · cases hs
theorem k_ifCond_le (F : m_Fix E D ty X i d n0 p R s m args meth c) {q : Int} (hok : m_ok i pc (.ifCond .le q, len, a, b) = true) (hs : m_stp X call (.ifCond .le q, len, a, b) pc lv st h = some (.inl C'))
    (k : m_At E D ty i n0 z0 p l e R s m args below meth c Q C') : m_At E D ty i n0 z0 p l e R s m args below meth c Q (pc, lv, st, h) := by
  intro H locs ls hP hS hl
  obtain ⟨⟨hx, hb, hml, hown, hts⟩, hKn, hEx, hsz, hi, hini, hR⟩ := F
  obtain ⟨hdg, hI⟩ := m_ok_sp hok
  obtain ⟨e1, e2⟩ : len = 3 ∧ (pc : Int) + q = ((a.toNat : Nat) : Int) := of_decide_eq_true hI
  subst e1
  rw [m_s_ifCond_le] at hs
  split at hs
  · refine lv_if_le hx hb hdg e2 (fun h1 => ?_) (fun h1 => ?_)
    · rw [if_pos h1] at hs
      cases hs
      exact k _ _ _ hP hS hl
    · rw [if_neg h1] at hs
      cases hs
      exact k _ _ _ hP hS hl
  · cases hs
theorem k_if_icmp_le (F : m_Fix E D ty X i d n0 p R s m args meth c) {q : Int} (hok : m_ok i pc (.if_icmp .le q, len, a, b) = true) (hs : m_stp X call (.if_icmp .le q, len, a, b) pc lv st h = some (.inl C'))
    (k : m_At E D ty i n0 z0 p l e R s m args below meth c Q C') : m_At E D ty i n0 z0 p l e R s m args below meth c Q (pc, lv, st, h) := by
  intro H locs ls hP hS hl
  obtain ⟨⟨hx, hb, hml, hown, hts⟩, hKn, hEx, hsz, hi, hini, hR⟩ := F
  obtain ⟨hdg, hI⟩ := m_ok_sp hok
  obtain ⟨e1, e2⟩ : len = 3 ∧ (pc : Int) + q = ((a.toNat : Nat) : Int) := of_decide_eq_true hI
  subst e1
  rw [m_s_if_icmp_le] at hs
  split at hs
  · refine lv_icmp_le hx hb hdg e2 (fun h1 => ?_) (fun h1 => ?_)
    · rw [if_pos h1] at hs
      cases hs
      exact k _ _ _ hP hS hl
    · rw [if_neg h1] at hs
      cases hs
      exact k _ _ _ hP hS hl
  · cases hs
theorem k_ifnull (F : m_Fix E D ty X i d n0 p R s m args meth c) {q : Int} (hok : m_ok i pc (.ifnull q, len, a, b) = true) (hs : m_stp X call (.ifnull q, len, a, b) pc lv st h = some (.inl C'))
    (k : m_At E D ty i n0 z0 p l e R s m args below meth c Q C') : m_At E D ty i n0 z0 p l e R s m args below meth c Q (pc, lv, st, h) := by
  intro H locs ls hP hS hl
  obtain ⟨⟨hx, hb, hml, hown, hts⟩, hKn, hEx, hsz, hi, hini, hR⟩ := F
  obtain ⟨hdg, hI⟩ := m_ok_sp hok
  obtain ⟨e1, e2⟩ : len = 3 ∧ (pc : Int) + q = ((a.toNat : Nat) : Int) := of_decide_eq_true hI
  subst e1
  rw [m_s_ifnull] at hs
  split at hs
  · cases hs
    exact lv_ifnullN hx hb hdg e2 (k _ _ _ hP hS hl)
  · cases hs
    exact lv_ifnull hx hb hdg (k _ _ _ hP hS hl)
  · cases hs
theorem k_ifnonnull (F : m_Fix E D ty X i d n0 p R s m args meth c) {q : Int} (hok : m_ok i pc (.ifnonnull q, len, a, b) = true) (hs : m_stp X call (.ifnonnull q, len, a, b) pc lv st h = some (.inl C'))
    (k : m_At E D ty i n0 z0 p l e R s m args below meth c Q C') : m_At E D ty i n0 z0 p l e R s m args below meth c Q (pc, lv, st, h) := by
  intro H locs ls hP hS hl
  obtain ⟨⟨hx, hb, hml, hown, hts⟩, hKn, hEx, hsz, hi, hini, hR⟩ := F
  obtain ⟨hdg, hI⟩ := m_ok_sp hok
  obtain ⟨e1, e2⟩ : len = 3 ∧ (pc : Int) + q = ((a.toNat : Nat) : Int) := of_decide_eq_true hI
  subst e1
  rw [m_s_ifnonnull] at hs
  split at hs
  · cases hs
    exact lv_ifnonnullN hx hb hdg (k _ _ _ hP hS hl)
  · cases hs
    exact lv_ifnonnull hx hb hdg e2 (k _ _ _ hP hS hl)
  · cases hs
theorem k_goto (F : m_Fix E D ty X i d n0 p R s m args meth c) {q : Int} (hok : m_ok i pc (.goto q, len, a, b) = true) (hs : m_stp X call (.goto q, len, a, b) pc lv st h = some (.inl C'))
    (k : m_At E D ty i n0 z0 p l e R s m args below meth c Q C') : m_At E D ty i n0 z0 p l e R s m args below meth c Q (pc, lv, st, h) := by
  intro H locs ls hP hS hl
  obtain ⟨⟨hx, hb, hml, hown, hts⟩, hKn, hEx, hsz, hi, hini, hR⟩ := F
  obtain ⟨hdg, hI⟩ := m_ok_sp hok
  obtain ⟨e1, e2⟩ : len = 3 ∧ (pc : Int) + q = ((a.toNat : Nat) : Int) := of_decide_eq_true hI
  subst e1
  rw [m_s_goto] at hs
  cases hs
  exact lv_goto hx hb hdg e2 (k _ _ _ hP hS hl)
theorem k_tableswitch (F : m_Fix E D ty X i d n0 p R s m args meth c) {q lo hi2 : Int} {offs : Array Int} (hok : m_ok i pc (.tableswitch q lo hi2 offs, len, a, b) = true) (hs : m_stp X call (.tableswitch q lo hi2 offs, len, a, b) pc lv st h = some (.inl C'))
    (k : m_At E D ty i n0 z0 p l e R s m args below meth c Q C') : m_At E D ty i n0 z0 p l e R s m args below meth c Q (pc, lv, st, h) := by
  intro H locs ls hP hS hl
  obtain ⟨⟨hx, hb, hml, hown, hts⟩, hKn, hEx, hsz, hi, hini, hR⟩ := F
  obtain ⟨hdg, hI⟩ := m_ok_sp hok
  rw [m_s_tableswitch] at hs
  split at hs
  · split at hs
    · rename_i h1
      split at hs
      · rename_i hg
        cases hs
        exact lv_tableOut hx hb hdg h1 (m_go_sp hg) (k _ _ _ hP hS hl)
      · cases hs
    · rename_i h1
      split at hs
      · rename_i ho
        split at hs
        · rename_i hg
          cases hs
          rw [m_nth_eq, Array.getElem?_toList] at ho
          exact lv_tableIn hx hb hdg (fun z => h1 (Or.inl z)) (fun z => h1 (Or.inr z)) ho (m_go_sp hg) (k _ _ _ hP hS hl)
        · cases hs
      · cases hs
  · cases hs
theorem k_lookupswitch (F : m_Fix E D ty X i d n0 p R s m args meth c) {q : Int} {ps : Array (Int × Int)} (hok : m_ok i pc (.lookupswitch q ps, len, a, b) = true) (hs : m_stp X call (.lookupswitch q ps, len, a, b) pc lv st h = some (.inl C'))
    (k : m_At E D ty i n0 z0 p l e R s m args below meth c Q C') : m_At E D ty i n0 z0 p l e R s m args below meth c Q (pc, lv, st, h) := by
  intro H locs ls hP hS hl
  obtain ⟨⟨hx, hb, hml, hown, hts⟩, hKn, hEx, hsz, hi, hini, hR⟩ := F
  obtain ⟨hdg, hI⟩ := m_ok_sp hok
  rw [m_s_lookupswitch] at hs
  split at hs
  · split at hs
    · rename_i hg
      cases hs
      exact lv_lookup hx hb hdg hI rfl (m_go_sp hg) (k _ _ _ hP hS hl)
    · cases hs
  · cases hs
theorem k_getfield (F : m_Fix E D ty X i d n0 p R s m args meth c) {q : Nat} (hok : m_ok i pc (.getfield q, len, a, b) = true) (hs : m_stp X call (.getfield q, len, a, b) pc lv st h = some (.inl C'))
    (k : m_At E D ty i n0 z0 p l e R s m args below meth c Q C') : m_At E D ty i n0 z0 p l e R s m args below meth c Q (pc, lv, st, h) := by
  intro H locs ls hP hS hl
  obtain ⟨⟨hx, hb, hml, hown, hts⟩, hKn, hEx, hsz, hi, hini, hR⟩ := F
  obtain ⟨hdg, hI⟩ := m_ok_sp hok
  obtain ⟨e1, e2⟩ : len = 3 ∧ ((m_oc i, q, b, a.toNat % 100) ∈ m_pf ∨ (m_oc i, q, b, a.toNat % 100) ∈ m_pfN) := of_decide_eq_true hI
  subst e1
  have hbk : b < 11 ∧ a.toNat % 100 < (m_cl b).2.2 := by
    rcases e2 with e2 | e2
    · exact (m_pf_in e2).2
    · exact (m_pfN_in e2).2
  rw [m_s_getfield] at hs
  split at hs
  · rename_i x r
    split at hs
    · rename_i t vs ho
      obtain ⟨ho1, ho2⟩ := m_ob_nth ho
      split at hs
      · rename_i e3
        subst e3
        have key : ∀ v, m_nth vs (a.toNat % 100) = some v → m_At E D ty i n0 z0 p l e R s m args below meth c Q (pc + 3, lv, v :: r, h) → W p l e R s m args below meth c H locs (h.length - n0) (m_sz h - z0) Q (F0 m pc ls ((Value.ref x :: r).map (m_rv E))) := by
          intro v hv k
          show W _ _ _ _ _ _ _ _ _ _ _ _ _ _ _ (F0 m pc ls (.ref (m_rl E x) :: r.map (m_rv E)))
          rw [m_rl_in E ho1]
          have he : (m_ws E ty h)[x]? = some (E.1 + x, .inr (t, vs.map (m_rv E))) := by
            rw [m_ws_at ho2, m_cell_o E ty (by omega)]
          have hv2 : (vs.map (m_rv E))[a.toNat % 100]? = some (m_rv E v) := by
            rw [List.getElem?_map, ← m_nth_eq, hv]
            rfl
          rcases e2 with e2 | e2
          · exact va_get hx hb hts (m_in_ok hbk.1) hown hKn.1 hP x he (m_cl_at hbk.1) (a.toNat % 100) hbk.2 (hts _ (m_pf_in e2).1) (fun _ z => z) hv2 hdg (k _ _ _ hP hS hl)
          · exact va_getN hx hb hts (m_in_ok hbk.1) hown hKn.1 hP x he (m_cl_at hbk.1) (a.toNat % 100) hbk.2 (va_Nw.use rfl (hKn.2.1 _ (m_pfN_in e2).1)) (fun _ z => z) hv2 hdg (k _ _ _ hP hS hl)
        split at hs
        · rename_i y hv
          cases hs
          exact key _ hv k
        · rename_i y hv
          cases hs
          exact key _ hv k
        · rename_i hv
          cases hs
          exact key _ hv k
        · cases hs
      · cases hs
    · cases hs
  · cases hs
end STEP
end
section
/-! the steps that look at the heap or change it -/
theorem m_ix_sp {x : Int32} {j : Nat} (h : m_ix x = some j) : ¬ x < 0 ∧ x.toNatClampNeg = j := by
  unfold m_ix at h
  split at h
  · cases h
  · rename_i h1
    cases h
    exact ⟨h1, rfl⟩
theorem m_fit_ok (E : m_AE) {ft : FieldType} {v : Value} (h : m_fit (m_fc ft) v = true) : narrow ft (m_rv E v) = m_rv E v ∧ fits ft (m_rv E v) = true := by
  cases ft <;> cases v <;> simp [m_fit, m_fc] at h <;> simp [m_rv, narrow, fits]
  rcases h with rfl | rfl <;> decide
theorem m_fdef (c k : Nat) : m_fd c k = (m_cl c).2.1 k := rfl
theorem m_cell_i (E : m_AE) (ty : Nat → ClassId) (vs : List Value) : m_cell E ty (20, vs) = .inl (ty 0, vs.length, .inl (fun j => m_i1 (vs.getD j (.int 0)))) := rfl
theorem m_cell_z (E : m_AE) (ty : Nat → ClassId) (vs : List Value) : m_cell E ty (21, vs) = .inl (ty 1, vs.length, .inl (fun j => m_i1 (vs.getD j (.int 0)))) := rfl
theorem m_cell_q (E : m_AE) (ty : Nat → ClassId) {t : Nat} (h : 22 ≤ t) (vs : List Value) : m_cell E ty (t, vs) = .inl (ty (t - 20), vs.length, .inr (.inr (.inr (.inr (fun j => m_or E (vs.getD j .null)))))) := by
  unfold m_cell
  rw [if_neg (by show ¬ t < 20; omega), if_neg (by show ¬ t < 22; omega)]
def m_cn5 (t : Nat) : String := (m_cl (m_cmp t)).1
theorem m_tys_q (ty : Nat → ClassId) {t : Nat} (h : 22 ≤ t ∧ t ≤ 26) : (m_tys ty)[t - 20]? = some (ty (t - 20), .object (m_cn5 t)) ∧ m_cmp t < 11 ∧ m_cn5 t ∈ m_ao := by
  have : t = 22 ∨ t = 23 ∨ t = 24 ∨ t = 25 ∨ t = 26 := by omega
  rcases this with rfl | rfl | rfl | rfl | rfl <;> exact ⟨rfl, by decide, by decide +kernel⟩
theorem m_set_i {vs : List Value} {j : Nat} (hj : j < vs.length) (x : Int32) : upd (fun q => m_i1 (vs.getD q (.int 0))) j x = fun q => m_i1 ((vs.set j (.int x)).getD q (.int 0)) := by
  funext q
  unfold upd
  by_cases hq : q = j
  · subst hq
    simp [hj, m_i1]
  · simp [hq, List.getD_eq_getElem?_getD, List.getElem?_set, Ne.symm hq]
theorem m_set_q (E : m_AE) {vs : List Value} {j : Nat} (hj : j < vs.length) (v : Value) : va_up (fun q => m_or E (vs.getD q .null)) j (m_or E v) = fun q => m_or E ((vs.set j v).getD q .null) := by
  funext q
  unfold va_up
  by_cases hq : q = j
  · subst hq
    simp [hj]
  · simp [hq, List.getD_eq_getElem?_getD, List.getElem?_set, Ne.symm hq]
theorem m_rv_rf (E : m_AE) {v : Value} (h : (∃ x, v = .ref x) ∨ v = .null) : va_rf (m_or E v) = m_rv E v := by
  rcases h with ⟨x, rfl⟩ | rfl <;> rfl
theorem m_getD_nth {vs : List Value} {j : Nat} {v dv : Value} (h : m_nth vs j = some v) : vs.getD j dv = v := by
  rw [m_nth_eq] at h
  simp [List.getD_eq_getElem?_getD, h]
theorem m_ps_in {o k j : Nat} (h : (o, k, j) ∈ m_ps) : Cond.fieldLink (m_cn o) k m_host (m_sn j) "[I" ∈ lw_good ∧ (j = 1 ∨ j = 2) := by
  have h1 := List.all_eq_true.mp m_ps_ok _ h
  dsimp only at h1
  refine ⟨m_has_in h1, ?_⟩
  simp only [m_ps, List.mem_singleton, Prod.mk.injEq] at h
  omega
theorem m_psN_in {o k j : Nat} (h : (o, k, j) ∈ m_psN) : Cond.fieldLinkNest (m_cn o) k m_host (m_sn j) "[I" m_host ∈ m_nw ∧ (j = 1 ∨ j = 2) := by
  refine ⟨?_, ?_⟩
  · unfold m_nw
    exact List.mem_append_left _ (List.mem_append_left _ (List.mem_append_right _ (List.mem_map.mpr ⟨_, h, rfl⟩)))
  · simp only [m_psN, List.mem_cons, Prod.mk.injEq, List.not_mem_nil, or_false] at h
    omega
theorem m_pc_in {o k f : Nat} (h : (o, k, f) ∈ m_pc) : Cond.classLink (m_cn o) k (m_cl f).1 ∈ lw_good ∧ Cond.instantiable (m_cl f).1 (m_cl f).2.2 ∈ lw_good ∧ Cond.initialized (m_cl f).1 ∈ lw_good ∧ f < 11 := by
  obtain ⟨j, hj⟩ := m_zip m_pc_ln m_pc_ok h
  simp only [Bool.and_eq_true, decide_eq_true_eq] at hj
  exact ⟨m_hi_in hj.1, m_hi_in hj.2.1, m_hi_in hj.2.2.1, hj.2.2.2⟩
theorem m_dfl_len {f : Nat} (h : f < 11) : (m_dfl f).length = (m_cl f).2.2 := by
  have : f = 0 ∨ f = 1 ∨ f = 2 ∨ f = 3 ∨ f = 4 ∨ f = 5 ∨ f = 6 ∨ f = 7 ∨ f = 8 ∨ f = 9 ∨ f = 10 := by omega
  rcases this with rfl | rfl | rfl | rfl | rfl | rfl | rfl | rfl | rfl | rfl | rfl <;> rfl
theorem m_dfl_ok : (List.range 11).all (fun f => (List.range (m_cl f).2.2).all (fun j => decide (defaultValue (m_ty f j) = vp_V (m_dfl f) j) && (decide (m_rv (0, fun _ => 0) (vp_V (m_dfl f) j) = vp_V (m_dfl f) j)))) = true := by decide +kernel
theorem m_dfl_rv (E : m_AE) {f : Nat} (h : f < 11) : (m_dfl f).map (m_rv E) = m_dfl f := by
  have : f = 0 ∨ f = 1 ∨ f = 2 ∨ f = 3 ∨ f = 4 ∨ f = 5 ∨ f = 6 ∨ f = 7 ∨ f = 8 ∨ f = 9 ∨ f = 10 := by omega
  rcases this with rfl | rfl | rfl | rfl | rfl | rfl | rfl | rfl | rfl | rfl | rfl <;> rfl
theorem m_dfl_at {f j : Nat} (h : f < 11) (hj : j < (m_cl f).2.2) : defaultValue (m_ty f j) = vp_V (m_dfl f) j := by
  have h1 := List.all_eq_true.mp (List.all_eq_true.mp m_dfl_ok f (List.mem_range.mpr h)) j (List.mem_range.mpr hj)
  simp only [Bool.and_eq_true, decide_eq_true_eq] at h1
  exact h1.1
theorem m_A0 {E : m_AE} {n0 : Nat} {s : State} (hsz : s.heap.size = E.1 + n0) : ∀ q : Nat, s.heap.size ≤ q → m_A E q := fun q h => Nat.le_trans (Nat.le_add_right _ _) (hsz ▸ h)
section HEAP
variable {p : Program} {l : Launch} {e : Env} {R : Room} {s : State} {m : MethodId} {args : Array Value} {below : List Frame} {meth : Method} {c : Code} {Q : State → Prop}
variable {E : m_AE} {D : va_G} {ty : Nat → ClassId} {X : Nat → List Int32} {i d n0 z0 : Nat} {call : Nat → List Value → m_H → Option m_R} {len : Nat} {a : Int} {b pc : Nat} {lv : m_L} {st : List Value} {h : m_H} {C' : m_C}
/-- how large the heap is: as large as the plain one -/
theorem m_W_sz {H : Heap} {locs : List Loc} {cells slots : Nat} {g : JFrame} (k : H.size ≤ s.heap.size + cells → W p l e R s m args below meth c H locs cells slots Q g) : W p l e R s m args below meth c H locs cells slots Q g := fun T hT Y => k (by rw [← hT]; exact Y.heapSize) T hT Y
/-- a new cell is the next one -/
theorem m_new_q {H1 : Heap} {q : Nat} {x : va_E} (hP : va_P D vwCl (m_ws E ty h ++ [(q, x)]) H1) (hD : va_D (m_A E) (m_ws E ty h ++ [(q, x)])) (hH : H1.size ≤ E.1 + h.length + 1) : q = E.1 + h.length := by
  have hq : (m_ws E ty h ++ [(q, x)])[h.length]? = some (q, x) := by
    rw [List.getElem?_append_right (by rw [m_ws_len]; exact Nat.le_refl _), m_ws_len, Nat.sub_self]
    rfl
  have h1 : q < H1.size := (hP _ _ hq).lt
  have h2 : E.1 ≤ q := hD.2 _ _ hq
  by_cases h3 : q - E.1 < h.length
  · exfalso
    have h4 : (m_ws E ty h ++ [(q, x)])[q - E.1]? = some (E.1 + (q - E.1), m_cell E ty h[q - E.1]) := by
      rw [List.getElem?_append_left (by rw [m_ws_len]; exact h3), m_ws_get, List.getElem?_eq_getElem h3]
      rfl
    have h5 := hD.1 _ _ _ _ h4 hq (by show E.1 + (q - E.1) = q; omega)
    omega
  · omega
/-- behind an allocation -/
theorem m_alloc {H1 : Heap} {locs1 : List Loc} {ls : Array Slot} {q N : Nat} {t : Nat} {vs : List Value} {x : va_E} {r : List Value} {pc' : Nat} (hsz : s.heap.size = E.1 + n0) (hn : n0 ≤ h.length) (hz : z0 ≤ m_sz h)
    (hx : x = m_cell E ty (t, vs)) (hN : vs.length = N) (hlen : h.length < 1000000) (hP : va_P D vwCl (m_ws E ty h ++ [(q, x)]) H1) (hD : va_D (m_A E) (m_ws E ty h ++ [(q, x)])) (hS : va_S (m_A E) s.heap H1 locs1) (hl : lv_has ls (m_nl i) (lv.map (m_rq E)))
    (k : m_At E D ty i n0 z0 p l e R s m args below meth c Q (pc', lv, .ref h.length :: r, h ++ [(t, vs)])) : W p l e R s m args below meth c H1 locs1 (h.length - n0 + 1) (m_sz h - z0 + N) Q (F0 m pc' ls (.ref q :: r.map (m_rv E))) := by
  refine m_W_sz (fun hH => ?_)
  have hq := m_new_q hP hD (by omega)
  subst hx
  subst hq
  have kz := k H1 locs1 ls (by rw [m_ws_add]; exact hP) hS hl
  rw [m_sz_add, List.length_append, List.length_singleton] at kz
  have e1 : h.length + 1 - n0 = h.length - n0 + 1 := by omega
  have e2 : m_sz h + vs.length - z0 = m_sz h - z0 + N := by omega
  rw [e1, e2] at kz
  have e3 : m_rv E (.ref h.length) = .ref (E.1 + h.length) := congrArg Value.ref (m_rl_in E hlen)
  have e4 : (Value.ref h.length :: r).map (m_rv E) = .ref (E.1 + h.length) :: r.map (m_rv E) := by rw [List.map_cons, e3]
  rw [e4] at kz
  exact kz
theorem m_add_sp {t : Nat} {vs : List Value} {h' : m_H} (ha : m_add h t vs = some h') : h.length < 1000000 ∧ h' = h ++ [(t, vs)] := by
  unfold m_add at ha
  split at ha
  · rename_i h1
    cases ha
    exact ⟨h1, rfl⟩
  · cases ha
theorem k_putfield (F : m_Fix E D ty X i d n0 p R s m args meth c) {q : Nat} (hok : m_ok i pc (.putfield q, len, a, b) = true) (hs : m_stp X call (.putfield q, len, a, b) pc lv st h = some (.inl C'))
    (k : m_At E D ty i n0 z0 p l e R s m args below meth c Q C') : m_At E D ty i n0 z0 p l e R s m args below meth c Q (pc, lv, st, h) := by
  intro H locs ls hP hS hl
  dsimp only at hP hl ⊢
  obtain ⟨⟨hx, hb, hml, hown, hts⟩, hKn, hEx, hsz, hi, hini, hR⟩ := F
  obtain ⟨hdg, hI⟩ := m_ok_sp hok
  have hI : (decide (len = 3 ∧ (m_oc i, q, b, a.toNat % 100) ∈ m_pf ∧ m_fc (m_ty b (a.toNat % 100)) = a.toNat / 100) && (!(m_fd b (a.toNat % 100)).2.2.2 || decide ((m_y i).name = "<init>" ∧ (m_fd b (a.toNat % 100)).1 = m_cn (m_oc i)))) = true := hI
  rw [Bool.and_eq_true, decide_eq_true_eq] at hI
  obtain ⟨⟨e1, e2, e3⟩, e4⟩ := hI
  subst e1
  obtain ⟨g1, g2, g3⟩ := m_pf_in e2
  rw [m_s_putfield] at hs
  split at hs
  · rename_i v x r
    split at hs
    · rename_i t vs ho
      obtain ⟨ho1, ho2⟩ := m_ob_nth ho
      split at hs
      · rename_i e5
        obtain ⟨e5, e6, e7⟩ := e5
        subst e5
        cases hs
        show W _ _ _ _ _ _ _ _ _ _ _ _ _ _ _ (F0 m pc ls (m_rv E v :: .ref (m_rl E x) :: r.map (m_rv E)))
        rw [m_rl_in E ho1]
        have he : (m_ws E ty h)[x]? = some (E.1 + x, .inr (t, vs.map (m_rv E))) := by
          rw [m_ws_at ho2, m_cell_o E ty (by omega)]
        rw [← e3] at e7
        obtain ⟨f1, f2⟩ := m_fit_ok E e7
        have kk : ∀ (H1 : Heap) (locs1 : List Loc), va_P D vwCl ((m_ws E ty h).set x (E.1 + x, .inr (t, (vs.map (m_rv E)).set (a.toNat % 100) (m_rv E v)))) H1 → va_D (m_A E) ((m_ws E ty h).set x (E.1 + x, .inr (t, (vs.map (m_rv E)).set (a.toNat % 100) (m_rv E v)))) → va_S (m_A E) s.heap H1 locs1 → W p l e R s m args below meth c H1 locs1 (h.length - n0) (m_sz h - z0) Q (F0 m (pc + 3) ls (r.map (m_rv E))) := by
          intro H1 locs1 hP1 _ hS1
          have kz := k H1 locs1 ls (by show va_P D vwCl (m_ws E ty (h.set x (t, vs.set (a.toNat % 100) v))) H1; rw [m_ws_set, m_cell_o E ty (by omega), List.map_set]; exact hP1) hS1 hl
          rw [List.length_set, m_sz_set ho2 (by simp)] at kz
          exact kz
        by_cases hfin : (m_fd t (a.toNat % 100)).2.2.2 = true
        · rw [hfin] at e4
          simp only [Bool.not_true, Bool.false_or, decide_eq_true_eq] at e4
          exact va_putF hx hb hts (m_in_ok g2) (m_ty t) (m_ty_ok g2) (m_nm_ok g2) hown hKn.1 hP (m_ws_D E ty h) hS x he (m_cl_at g2) (a.toNat % 100) g3 (hts _ g1) (fun _ z => z) hfin (hini e4.1) e4.2 (m_ty_ok g2 _ g3) f1 f2 (by simpa using e6) hdg kk
        · exact va_put hx hb hts (m_in_ok g2) (m_ty t) (m_ty_ok g2) (m_nm_ok g2) hown hKn.1 hP (m_ws_D E ty h) hS x he (m_cl_at g2) (a.toNat % 100) g3 (hts _ g1) (fun _ z => z) (Bool.not_eq_true _ ▸ hfin) (m_ty_ok g2 _ g3) f1 f2 (by simpa using e6) hdg kk
      · cases hs
    · cases hs
  · cases hs
theorem k_getstatic (F : m_Fix E D ty X i d n0 p R s m args meth c) {q : Nat} (hok : m_ok i pc (.getstatic q, len, a, b) = true) (hs : m_stp X call (.getstatic q, len, a, b) pc lv st h = some (.inl C'))
    (k : m_At E D ty i n0 z0 p l e R s m args below meth c Q C') : m_At E D ty i n0 z0 p l e R s m args below meth c Q (pc, lv, st, h) := by
  intro H locs ls hP hS hl
  dsimp only at hP hl ⊢
  obtain ⟨⟨hx, hb, hml, hown, hts⟩, hKn, hEx, hsz, hi, hini, hR⟩ := F
  obtain ⟨hdg, hI⟩ := m_ok_sp hok
  obtain ⟨e1, e2⟩ : len = 3 ∧ ((m_oc i, q, b) ∈ m_ps ∨ (m_oc i, q, b) ∈ m_psN) := of_decide_eq_true hI
  subst e1
  rw [m_s_getstatic] at hs
  cases hs
  have hv : m_rv E (.ref (1000000 + b)) = .ref (E.2 b) := by
    show Value.ref (m_rl E (1000000 + b)) = _
    unfold m_rl
    rw [if_neg (by omega), Nat.add_sub_cancel_left]
  have k2 : W p l e R s m args below meth c H locs (h.length - n0) (m_sz h - z0) Q (F0 m (pc + 3) ls (.ref (E.2 b) :: st.map (m_rv E))) := by
    have kz := k _ _ _ hP hS hl
    rw [List.map_cons, hv] at kz
    exact kz
  rcases e2 with e2 | e2
  · exact va_gets hx hb (hEx.2 b (m_ps_in e2).2) hS hown (hts _ (m_ps_in e2).1) (fun _ z => z) hdg k2
  · exact va_getsN hx hb (hEx.2 b (m_psN_in e2).2) hS hown (va_Nw.use rfl (hKn.2.1 _ (m_psN_in e2).1)) (fun _ z => z) hdg k2
theorem k_new (F : m_Fix E D ty X i d n0 p R s m args meth c) {q : Nat} (hok : m_ok i pc (.new q, len, a, b) = true) (hs : m_stp X call (.new q, len, a, b) pc lv st h = some (.inl C')) (hn : n0 ≤ h.length) (hz : z0 ≤ m_sz h) (hc1 : C'.2.2.2.length - n0 ≤ R.cells) (hc2 : m_sz C'.2.2.2 - z0 ≤ R.slots)
    (k : m_At E D ty i n0 z0 p l e R s m args below meth c Q C') : m_At E D ty i n0 z0 p l e R s m args below meth c Q (pc, lv, st, h) := by
  intro H locs ls hP hS hl
  dsimp only at hP hl ⊢
  obtain ⟨⟨hx, hb, hml, hown, hts⟩, hKn, hEx, hsz, hi, hini, hR⟩ := F
  obtain ⟨hdg, hI⟩ := m_ok_sp hok
  obtain ⟨e1, e2⟩ : len = 3 ∧ (m_oc i, q, b) ∈ m_pc := of_decide_eq_true hI
  subst e1
  obtain ⟨g1, g2, g3, g4⟩ := m_pc_in e2
  rw [m_s_new] at hs
  split at hs
  · rename_i h' ha
    cases hs
    obtain ⟨a1, rfl⟩ := m_add_sp ha
    rw [List.length_append, List.length_singleton] at hc1
    rw [m_sz_add, m_dfl_len g4] at hc2
    refine va_new hx hb hts (m_in_ok g4) (m_ty b) (m_ty_ok g4) hown (hts _ g1) (hts _ g2) (hts _ g3) hKn.1 hP (m_ws_D E ty h) hS (m_A0 hsz) (m_cl_at g4) (fs := m_dfl b) (fun j hj => m_dfl_at g4 hj) (by omega) (by omega) hdg (fun x H1 hP1 hD1 hS1 => ?_)
    exact m_alloc hsz hn hz (by rw [m_cell_o E ty (by omega), m_dfl_rv E g4]) (m_dfl_len g4) a1 hP1 hD1 hS1 hl k
  · cases hs
theorem k_newarray (F : m_Fix E D ty X i d n0 p R s m args meth c) {q : ArrayType} (hok : m_ok i pc (.newarray q, len, a, b) = true) (hs : m_stp X call (.newarray q, len, a, b) pc lv st h = some (.inl C')) (hn : n0 ≤ h.length) (hz : z0 ≤ m_sz h) (hc1 : C'.2.2.2.length - n0 ≤ R.cells) (hc2 : m_sz C'.2.2.2 - z0 ≤ R.slots)
    (k : m_At E D ty i n0 z0 p l e R s m args below meth c Q C') : m_At E D ty i n0 z0 p l e R s m args below meth c Q (pc, lv, st, h) := by
  intro H locs ls hP hS hl
  dsimp only at hP hl ⊢
  obtain ⟨⟨hx, hb, hml, hown, hts⟩, hKn, hEx, hsz, hi, hini, hR⟩ := F
  obtain ⟨hdg, hI⟩ := m_ok_sp hok
  obtain ⟨e1, e2⟩ : len = 2 ∧ ((q = .int ∧ b = 20) ∨ (q = .boolean ∧ b = 21)) := of_decide_eq_true hI
  subst e1
  rw [m_s_newarray] at hs
  split at hs
  · rename_i x r
    split at hs
    · rename_i w hw
      obtain ⟨w1, w2⟩ := m_ix_sp hw
      split at hs
      · rename_i w3
        split at hs
        · rename_i h' ha
          cases hs
          obtain ⟨a1, rfl⟩ := m_add_sp ha
          rw [List.length_append, List.length_singleton] at hc1
          rw [m_sz_add, List.length_replicate] at hc2
          have hf : (fun j => m_i1 ((List.replicate w (Value.int 0)).getD j (.int 0))) = fun _ => (0 : Int32) := by
            funext j
            by_cases hj : j < w <;> simp [List.getD_eq_getElem?_getD, List.getElem?_replicate, hj, m_i1]
          rcases e2 with ⟨rfl, rfl⟩ | ⟨rfl, rfl⟩
          · refine va_newa (atype := .int) (a0 := (w, .inl (fun _ => 0))) hx hb (hts _ (m_has_in m_arr_ok.1)) rfl hKn.1 hP (m_ws_D E ty h) hS (m_A0 hsz) (fun cA => rfl) w1 w2 (by show w * 4 ≤ _; omega) (by omega) (by omega) hdg (fun y cA H1 hK1 hP1 hD1 hS1 => ?_)
            have hcA : cA = ty 0 := Option.some.inj (((hK1.2 7 (cA, .int) rfl).2.symm.trans (hKn.1.2 0 (ty 0, .int) rfl).2))
            subst hcA
            exact m_alloc (t := 20) hsz hn hz (by rw [m_cell_i, hf, List.length_replicate]) (List.length_replicate ..) a1 hP1 hD1 hS1 hl k
          · refine va_newa (atype := .boolean) (a0 := (w, .inl (fun _ => 0))) hx hb (hts _ (m_has_in m_arr_ok.2)) rfl hKn.1 hP (m_ws_D E ty h) hS (m_A0 hsz) (fun cA => rfl) w1 w2 (by show w * 1 ≤ _; omega) (by omega) (by omega) hdg (fun y cA H1 hK1 hP1 hD1 hS1 => ?_)
            have hcA : cA = ty 1 := Option.some.inj (((hK1.2 7 (cA, .boolean) rfl).2.symm.trans (hKn.1.2 1 (ty 1, .boolean) rfl).2))
            subst hcA
            exact m_alloc (t := 21) hsz hn hz (by rw [m_cell_z, hf, List.length_replicate]) (List.length_replicate ..) a1 hP1 hD1 hS1 hl k
        · cases hs
      · cases hs
    · cases hs
  · cases hs
theorem k_anewarray (F : m_Fix E D ty X i d n0 p R s m args meth c) {q : Nat} (hok : m_ok i pc (.anewarray q, len, a, b) = true) (hs : m_stp X call (.anewarray q, len, a, b) pc lv st h = some (.inl C')) (hn : n0 ≤ h.length) (hz : z0 ≤ m_sz h) (hc1 : C'.2.2.2.length - n0 ≤ R.cells) (hc2 : m_sz C'.2.2.2 - z0 ≤ R.slots)
    (k : m_At E D ty i n0 z0 p l e R s m args below meth c Q C') : m_At E D ty i n0 z0 p l e R s m args below meth c Q (pc, lv, st, h) := by
  intro H locs ls hP hS hl
  dsimp only at hP hl ⊢
  obtain ⟨⟨hx, hb, hml, hown, hts⟩, hKn, hEx, hsz, hi, hini, hR⟩ := F
  obtain ⟨hdg, hI⟩ := m_ok_sp hok
  obtain ⟨e1, e2, e3⟩ : len = 3 ∧ (m_oc i, q, m_cmp b) ∈ m_pc ∧ 22 ≤ b ∧ b ≤ 26 := of_decide_eq_true hI
  subst e1
  obtain ⟨g1, -, -, g4⟩ := m_pc_in e2
  obtain ⟨t1, t2, t3⟩ := m_tys_q ty e3
  rw [m_s_anewarray] at hs
  split at hs
  · rename_i x r
    split at hs
    · rename_i w hw
      obtain ⟨w1, w2⟩ := m_ix_sp hw
      split at hs
      · rename_i w3
        split at hs
        · rename_i h' ha
          cases hs
          obtain ⟨a1, rfl⟩ := m_add_sp ha
          rw [List.length_append, List.length_singleton] at hc1
          rw [m_sz_add, List.length_replicate] at hc2
          have hf : (fun j => m_or E ((List.replicate w Value.null).getD j .null)) = fun _ => none := by
            funext j
            by_cases hj : j < w <;> simp [List.getD_eq_getElem?_getD, List.getElem?_replicate, hj, m_or]
          refine va_newq hx hb hown (hts _ g1) (hKn.2.2 _ t3) hKn.1 hP (m_ws_D E ty h) hS (m_A0 hsz) w1 w2 (by omega) (by omega) (by omega) hdg (fun y cA H1 hK1 hP1 hD1 hS1 => ?_)
          obtain ⟨_, _, -, -, -, n1⟩ := (hK1.2 7 (cA, .object (m_cn5 b)) rfl).2
          obtain ⟨_, _, -, -, -, n2⟩ := (hKn.1.2 _ _ t1).2
          have hcA : cA = ty (b - 20) := Option.some.inj (n1.symm.trans n2)
          subst hcA
          exact m_alloc (t := b) hsz hn hz (by rw [m_cell_q E ty e3.1, hf, List.length_replicate]) (List.length_replicate ..) a1 hP1 hD1 hS1 hl k
        · cases hs
      · cases hs
    · cases hs
  · cases hs
end HEAP
end
section
/-! the steps over arrays -/
theorem m_el_sp {X : Nat → List Int32} {h : m_H} {tag x : Nat} {y : Int32} {v : Value} (hE : m_el X h tag x y = some v) : ∃ j, m_ix y = some j ∧ ((x < 1000000 ∧ ∃ vs, m_nth h x = some (tag, vs) ∧ m_nth vs j = some v) ∨ (¬ x < 1000000 ∧ tag = 20 ∧ x - 1000000 < 3 ∧ ∃ w, m_nth (X (x - 1000000)) j = some w ∧ v = .int w)) := by
  unfold m_el at hE
  split at hE
  · cases hE
  · rename_i j hj
    refine ⟨j, hj, ?_⟩
    split at hE
    · rename_i h1
      split at hE
      · rename_i t vs ho
        split at hE
        · rename_i e3
          subst e3
          exact Or.inl ⟨h1, vs, ho, hE⟩
        · cases hE
      · cases hE
    · rename_i h1
      split at hE
      · rename_i h2
        obtain ⟨w, hw, rfl⟩ := Option.map_eq_some_iff.mp hE
        exact Or.inr ⟨h1, h2.1, h2.2.1, w, hw, rfl⟩
      · cases hE
theorem m_in_nth {α : Type} {vs : List α} {y : Int32} {j : Nat} {v : α} (hj : m_ix y = some j) (hv : m_nth vs j = some v) : vp_in y vs.length := by
  obtain ⟨w1, w2⟩ := m_ix_sp hj
  rintro (q | q)
  · exact w1 q
  · have := m_nth_lt hv
    omega
theorem m_in_lt {y : Int32} {j n : Nat} (hj : m_ix y = some j) (hv : j < n) : vp_in y n := by
  obtain ⟨w1, w2⟩ := m_ix_sp hj
  rintro (q | q)
  · exact w1 q
  · omega
theorem m_se_sp {h h' : m_H} {tag x : Nat} {y : Int32} {v : Value} (hE : m_se h tag x y v = some h') : ∃ j vs, m_ix y = some j ∧ x < 1000000 ∧ m_nth h x = some (tag, vs) ∧ j < vs.length ∧ h' = h.set x (tag, vs.set j v) := by
  unfold m_se at hE
  split at hE
  · cases hE
  · rename_i j hj
    split at hE
    · rename_i t vs ho
      split at hE
      · rename_i e3
        obtain ⟨rfl, e4⟩ := e3
        cases hE
        obtain ⟨ho1, ho2⟩ := m_ob_nth ho
        exact ⟨j, vs, hj, ho1, ho2, e4, rfl⟩
      · cases hE
    · cases hE
theorem m_rl_ex (E : m_AE) {x : Nat} (h : ¬ x < 1000000) : m_rl E x = E.2 (x - 1000000) := if_neg h
section HEAP
variable {p : Program} {l : Launch} {e : Env} {R : Room} {s : State} {m : MethodId} {args : Array Value} {below : List Frame} {meth : Method} {c : Code} {Q : State → Prop}
variable {E : m_AE} {D : va_G} {ty : Nat → ClassId} {X : Nat → List Int32} {i d n0 z0 : Nat} {call : Nat → List Value → m_H → Option m_R} {len : Nat} {a : Int} {b pc : Nat} {lv : m_L} {st : List Value} {h : m_H} {C' : m_C}
theorem k_arraylength (F : m_Fix E D ty X i d n0 p R s m args meth c) (hok : m_ok i pc (.arraylength, len, a, b) = true) (hs : m_stp X call (.arraylength, len, a, b) pc lv st h = some (.inl C'))
    (k : m_At E D ty i n0 z0 p l e R s m args below meth c Q C') : m_At E D ty i n0 z0 p l e R s m args below meth c Q (pc, lv, st, h) := by
  intro H locs ls hP hS hl
  dsimp only at hP hl ⊢
  obtain ⟨⟨hx, hb, hml, hown, hts⟩, hKn, hEx, hsz, hi, hini, hR⟩ := F
  obtain ⟨hdg, hI⟩ := m_ok_sp hok
  have e1 : len = 1 := of_decide_eq_true hI
  subst e1
  rw [m_s_arraylength] at hs
  split at hs
  · rename_i x r
    split at hs
    · rename_i n hn
      cases hs
      show W _ _ _ _ _ _ _ _ _ _ _ _ _ _ _ (F0 m pc ls (.ref (m_rl E x) :: r.map (m_rv E)))
      unfold m_ln at hn
      split at hn
      · rename_i h1
        split at hn
        · rename_i t vs ho
          split at hn
          · rename_i e3
            cases hn
            rw [m_rl_in E h1]
            by_cases t1 : t = 20
            · subst t1
              have hw := m_ws_at (E := E) (ty := ty) ho
              rw [m_cell_i] at hw
              exact va_alen hx hb hKn.1 hP x 0 hw rfl rfl hdg (k _ _ _ hP hS hl)
            · by_cases t2 : t = 21
              · subst t2
                have hw := m_ws_at (E := E) (ty := ty) ho
                rw [m_cell_z] at hw
                exact va_alen hx hb hKn.1 hP x 1 hw rfl rfl hdg (k _ _ _ hP hS hl)
              · obtain ⟨q1, -, -⟩ := m_tys_q ty (t := t) (by omega)
                have hw := m_ws_at (E := E) (ty := ty) ho
                rw [m_cell_q E ty (by omega)] at hw
                exact va_alen hx hb hKn.1 hP x (t - 20) hw q1 rfl hdg (k _ _ _ hP hS hl)
          · cases hn
        · cases hn
      · rename_i h1
        split at hn
        · rename_i h2
          cases hn
          rw [m_rl_ex E h1]
          exact va_tlen hx hb (hEx.1 _ h2.1) hS rfl hdg (k _ _ _ hP hS hl)
        · cases hn
    · cases hs
  · cases hs
theorem k_iaload (F : m_Fix E D ty X i d n0 p R s m args meth c) (hok : m_ok i pc (.iaload, len, a, b) = true) (hs : m_stp X call (.iaload, len, a, b) pc lv st h = some (.inl C'))
    (k : m_At E D ty i n0 z0 p l e R s m args below meth c Q C') : m_At E D ty i n0 z0 p l e R s m args below meth c Q (pc, lv, st, h) := by
  intro H locs ls hP hS hl
  dsimp only at hP hl ⊢
  obtain ⟨⟨hx, hb, hml, hown, hts⟩, hKn, hEx, hsz, hi, hini, hR⟩ := F
  obtain ⟨hdg, hI⟩ := m_ok_sp hok
  have e1 : len = 1 := of_decide_eq_true hI
  subst e1
  rw [m_s_iaload] at hs
  split at hs
  · rename_i y x r
    split at hs
    · rename_i v hv
      cases hs
      show W _ _ _ _ _ _ _ _ _ _ _ _ _ _ _ (F0 m pc ls (.int y :: .ref (m_rl E x) :: r.map (m_rv E)))
      obtain ⟨j, hj, ⟨h1, vs, g1, g2⟩ | ⟨h1, -, h3, w, g1, g2⟩⟩ := m_el_sp hv
      · rw [m_rl_in E h1]
        refine va_iald hx hb hKn.1 hP x 0 (by rw [m_ws_at g1, m_cell_i]) rfl (m_in_nth hj g2) hdg ?_
        rw [(m_ix_sp hj).2, m_getD_nth g2]
        exact k _ _ _ hP hS hl
      · rw [m_rl_ex E h1]
        cases g2
        refine va_ti hx hb (hEx.1 _ h3) hS (m_in_nth hj g1) ?_ hdg (k _ _ _ hP hS hl)
        rw [m_nth_eq] at g1
        simp [(m_ix_sp hj).2, List.getD_eq_getElem?_getD, g1, m_rv]
    · cases hs
  · cases hs
theorem k_baload (F : m_Fix E D ty X i d n0 p R s m args meth c) (hok : m_ok i pc (.baload, len, a, b) = true) (hs : m_stp X call (.baload, len, a, b) pc lv st h = some (.inl C'))
    (k : m_At E D ty i n0 z0 p l e R s m args below meth c Q C') : m_At E D ty i n0 z0 p l e R s m args below meth c Q (pc, lv, st, h) := by
  intro H locs ls hP hS hl
  dsimp only at hP hl ⊢
  obtain ⟨⟨hx, hb, hml, hown, hts⟩, hKn, hEx, hsz, hi, hini, hR⟩ := F
  obtain ⟨hdg, hI⟩ := m_ok_sp hok
  have e1 : len = 1 := of_decide_eq_true hI
  subst e1
  rw [m_s_baload] at hs
  split at hs
  · rename_i y x r
    split at hs
    · rename_i v hv
      cases hs
      show W _ _ _ _ _ _ _ _ _ _ _ _ _ _ _ (F0 m pc ls (.int y :: .ref (m_rl E x) :: r.map (m_rv E)))
      obtain ⟨j, hj, ⟨h1, vs, g1, g2⟩ | ⟨h1, h2, -⟩⟩ := m_el_sp hv
      · rw [m_rl_in E h1]
        refine va_zald hx hb hKn.1 hP x 1 (by rw [m_ws_at g1, m_cell_z]) rfl (m_in_nth hj g2) hdg ?_
        rw [(m_ix_sp hj).2, m_getD_nth g2]
        exact k _ _ _ hP hS hl
      · exact absurd h2 (by decide)
    · cases hs
  · cases hs
theorem k_aaload (F : m_Fix E D ty X i d n0 p R s m args meth c) (hok : m_ok i pc (.aaload, len, a, b) = true) (hs : m_stp X call (.aaload, len, a, b) pc lv st h = some (.inl C'))
    (k : m_At E D ty i n0 z0 p l e R s m args below meth c Q C') : m_At E D ty i n0 z0 p l e R s m args below meth c Q (pc, lv, st, h) := by
  intro H locs ls hP hS hl
  dsimp only at hP hl ⊢
  obtain ⟨⟨hx, hb, hml, hown, hts⟩, hKn, hEx, hsz, hi, hini, hR⟩ := F
  obtain ⟨hdg, hI⟩ := m_ok_sp hok
  have e1 : len = 1 := of_decide_eq_true hI
  subst e1
  rw [m_s_aaload] at hs
  split at hs
  · rename_i y x r
    split at hs
    · rename_i t vs j ho hj
      obtain ⟨ho1, ho2⟩ := m_ob_nth ho
      split at hs
      · rename_i e3
        obtain ⟨q1, -, -⟩ := m_tys_q ty e3
        have key : ∀ v, ((∃ z, v = .ref z) ∨ v = .null) → m_nth vs j = some v → m_At E D ty i n0 z0 p l e R s m args below meth c Q (pc + 1, lv, v :: r, h) → W p l e R s m args below meth c H locs (h.length - n0) (m_sz h - z0) Q (F0 m pc ls ((Value.int y :: Value.ref x :: r).map (m_rv E))) := by
          intro v hv0 hv k
          show W _ _ _ _ _ _ _ _ _ _ _ _ _ _ _ (F0 m pc ls (.int y :: .ref (m_rl E x) :: r.map (m_rv E)))
          rw [m_rl_in E ho1]
          refine va_aldq hx hb hKn.1 hP x (t - 20) (by rw [m_ws_at ho2, m_cell_q E ty e3.1]) q1 (m_in_nth hj hv) hdg ?_
          rw [(m_ix_sp hj).2, m_getD_nth hv, m_rv_rf E hv0]
          exact k _ _ _ hP hS hl
        split at hs
        · rename_i z hv
          cases hs
          exact key _ (Or.inl ⟨_, rfl⟩) hv k
        · rename_i hv
          cases hs
          exact key _ (Or.inr rfl) hv k
        · cases hs
      · cases hs
    · cases hs
  · cases hs
theorem k_iastore (F : m_Fix E D ty X i d n0 p R s m args meth c) (hok : m_ok i pc (.iastore, len, a, b) = true) (hs : m_stp X call (.iastore, len, a, b) pc lv st h = some (.inl C'))
    (k : m_At E D ty i n0 z0 p l e R s m args below meth c Q C') : m_At E D ty i n0 z0 p l e R s m args below meth c Q (pc, lv, st, h) := by
  intro H locs ls hP hS hl
  dsimp only at hP hl ⊢
  obtain ⟨⟨hx, hb, hml, hown, hts⟩, hKn, hEx, hsz, hi, hini, hR⟩ := F
  obtain ⟨hdg, hI⟩ := m_ok_sp hok
  have e1 : len = 1 := of_decide_eq_true hI
  subst e1
  rw [m_s_iastore] at hs
  split at hs
  · rename_i v y x r
    split at hs
    · rename_i h' hE
      obtain ⟨j, vs, hj, h1, g1, g2, rfl⟩ := m_se_sp hE
      cases hs
      show W _ _ _ _ _ _ _ _ _ _ _ _ _ _ _ (F0 m pc ls (.int v :: .int y :: .ref (m_rl E x) :: r.map (m_rv E)))
      rw [m_rl_in E h1]
      refine va_iast hx hb hKn.1 hP (m_ws_D E ty h) hS x 0 (by rw [m_ws_at g1, m_cell_i]) rfl (m_in_lt hj g2) hdg (fun H1 locs1 hP1 _ hS1 => ?_)
      have kz := k H1 locs1 ls (by
        show va_P D vwCl (m_ws E ty (h.set x (20, vs.set j (.int v)))) H1
        rw [m_ws_set, m_cell_i, ← m_set_i g2, List.length_set]
        rw [(m_ix_sp hj).2] at hP1
        exact hP1) hS1 hl
      rw [List.length_set, m_sz_set g1 (by simp)] at kz
      exact kz
    · cases hs
  · cases hs
theorem m_narz {x : Int32} (h : x = 0 ∨ x = 1) : vp_nar .boolean x = x := by
  rcases h with rfl | rfl <;> rfl
theorem k_bastore (F : m_Fix E D ty X i d n0 p R s m args meth c) (hok : m_ok i pc (.bastore, len, a, b) = true) (hs : m_stp X call (.bastore, len, a, b) pc lv st h = some (.inl C'))
    (k : m_At E D ty i n0 z0 p l e R s m args below meth c Q C') : m_At E D ty i n0 z0 p l e R s m args below meth c Q (pc, lv, st, h) := by
  intro H locs ls hP hS hl
  dsimp only at hP hl ⊢
  obtain ⟨⟨hx, hb, hml, hown, hts⟩, hKn, hEx, hsz, hi, hini, hR⟩ := F
  obtain ⟨hdg, hI⟩ := m_ok_sp hok
  have e1 : len = 1 := of_decide_eq_true hI
  subst e1
  rw [m_s_bastore] at hs
  split at hs
  · rename_i v y x r
    split at hs
    rotate_left
    · cases hs
    rename_i hz
    split at hs
    · rename_i h' hE
      obtain ⟨j, vs, hj, h1, g1, g2, rfl⟩ := m_se_sp hE
      cases hs
      show W _ _ _ _ _ _ _ _ _ _ _ _ _ _ _ (F0 m pc ls (.int v :: .int y :: .ref (m_rl E x) :: r.map (m_rv E)))
      rw [m_rl_in E h1]
      refine va_zast hx hb hKn.1 hP (m_ws_D E ty h) hS x 1 (by rw [m_ws_at g1, m_cell_z]) rfl (m_in_lt hj g2) hdg (fun H1 locs1 hP1 _ hS1 => ?_)
      have kz := k H1 locs1 ls (by
        show va_P D vwCl (m_ws E ty (h.set x (21, vs.set j (.int v)))) H1
        rw [m_ws_set, m_cell_z, ← m_set_i g2, List.length_set]
        rw [(m_ix_sp hj).2, m_narz hz] at hP1
        exact hP1) hS1 hl
      rw [List.length_set, m_sz_set g1 (by simp)] at kz
      exact kz
    · cases hs
  · cases hs
theorem k_aastore (F : m_Fix E D ty X i d n0 p R s m args meth c) (hok : m_ok i pc (.aastore, len, a, b) = true) (hs : m_stp X call (.aastore, len, a, b) pc lv st h = some (.inl C'))
    (k : m_At E D ty i n0 z0 p l e R s m args below meth c Q C') : m_At E D ty i n0 z0 p l e R s m args below meth c Q (pc, lv, st, h) := by
  intro H locs ls hP hS hl
  dsimp only at hP hl ⊢
  obtain ⟨⟨hx, hb, hml, hown, hts⟩, hKn, hEx, hsz, hi, hini, hR⟩ := F
  obtain ⟨hdg, hI⟩ := m_ok_sp hok
  have e1 : len = 1 := of_decide_eq_true hI
  subst e1
  rw [m_s_aastore] at hs
  split at hs
  · rename_i v y x r
    split at hs
    · rename_i t vs j ho hj
      obtain ⟨ho1, ho2⟩ := m_ob_nth ho
      split at hs
      · rename_i e3
        obtain ⟨t1, t2, g2, e4⟩ := e3
        obtain ⟨q1, q2, -⟩ := m_tys_q ty ⟨t1, t2⟩
        cases hs
        have kk : ∀ (H1 : Heap) (locs1 : List Loc), va_P D vwCl ((m_ws E ty h).set x (E.1 + x, .inl (ty (t - 20), vs.length, .inr (.inr (.inr (.inr (va_up (fun j => m_or E (vs.getD j .null)) y.toNatClampNeg (m_or E v)))))))) H1 → va_S (m_A E) s.heap H1 locs1 → W p l e R s m args below meth c H1 locs1 (h.length - n0) (m_sz h - z0) Q (F0 m (pc + 1) ls (r.map (m_rv E))) := by
          intro H1 locs1 hP1 hS1
          have kz := k H1 locs1 ls (by
            show va_P D vwCl (m_ws E ty (h.set x (t, vs.set j v))) H1
            rw [m_ws_set, m_cell_q E ty t1, ← m_set_q E g2, List.length_set]
            rw [(m_ix_sp hj).2] at hP1
            exact hP1) hS1 hl
          rw [List.length_set, m_sz_set ho2 (by simp)] at kz
          exact kz
        have hws : (m_ws E ty h)[x]? = some (E.1 + x, .inl (ty (t - 20), vs.length, .inr (.inr (.inr (.inr (fun j => m_or E (vs.getD j .null))))))) := by rw [m_ws_at ho2, m_cell_q E ty t1]
        cases v with
        | null =>
          show W _ _ _ _ _ _ _ _ _ _ _ _ _ _ _ (F0 m pc ls (.null :: .int y :: .ref (m_rl E x) :: r.map (m_rv E)))
          rw [m_rl_in E ho1]
          exact va_astqN hx hb hKn.1 hP (m_ws_D E ty h) hS x (t - 20) hws q1 (m_in_lt hj g2) hdg (fun H1 locs1 hP1 _ hS1 => kk H1 locs1 hP1 hS1)
        | ref z =>
          show W _ _ _ _ _ _ _ _ _ _ _ _ _ _ _ (F0 m pc ls (.ref (m_rl E z) :: .int y :: .ref (m_rl E x) :: r.map (m_rv E)))
          unfold m_asg at e4
          dsimp only at e4
          split at e4
          · rename_i t' us hz
            obtain ⟨hz1, hz2⟩ := m_ob_nth hz
            have e5 : t' = m_cmp t := by simpa using e4
            have hm : m_or E (.ref z) = some (E.1 + z) := congrArg some (m_rl_in E hz1)
            rw [hm] at kk
            rw [m_rl_in E ho1, m_rl_in E hz1]
            exact va_astq hx hb hKn.1 hP (m_ws_D E ty h) hS x (t - 20) z t' (r := m_cl t') hws (by rw [e5]; exact q1) (by rw [m_ws_at hz2, m_cell_o E ty (by omega)]) (m_cl_at (by omega)) (m_in_lt hj g2) hdg (fun H1 locs1 hP1 _ hS1 => kk H1 locs1 hP1 hS1)
          · cases e4
        | int _ => cases e4
        | long _ => cases e4
        | float _ => cases e4
        | double _ => cases e4
        | retAddr _ => cases e4
      · cases hs
    · cases hs
  · cases hs
end HEAP
end
section
/-! calls -/
def m_coLL : List (List (Nat × Nat)) := [[(0, 127), (1, 484), (2, 798), (3, 539), (4, 628), (5, 601), (6, 133), (7, 489), (8, 672), (9, 561)], [(10, 573), (11, 569), (12, 632), (13, 660), (14, 664), (15, 512), (16, 237), (17, 349), (18, 464), (19, 404)], [(20, 416), (21, 420), (22, 424), (23, 432), (24, 448), (25, 452), (26, 456), (27, 436), (28, 412), (29, 428)], [(30, 408), (31, 257), (32, 697), (33, 701), (34, 705), (35, 708), (36, 723), (37, 712), (38, 716), (39, 752)], [(40, 756), (41, 91), (42, 793), (43, 472), (44, 498), (45, 624), (46, 597), (47, 609), (48, 354), (49, 397)], [(50, 440), (51, 460), (52, 551), (53, 444), (54, 543), (55, 547), (56, 565), (57, 577), (58, 554), (59, 103)], [(60, 804), (61, 764), (62, 768), (63, 776), (64, 268), (65, 727), (66, 732), (67, 736), (68, 740), (69, 83)], [(70, 341), (71, 345), (72, 468), (73, 476), (74, 480), (75, 494), (76, 582), (77, 589), (78, 593), (79, 605)], [(80, 616), (81, 638), (82, 642), (83, 652), (84, 656), (85, 668), (86, 679), (87, 683), (88, 687), (89, 744)], [(90, 748), (91, 760), (92, 780), (93, 784), (94, 789), (95, 809), (96, 813), (97, 501), (98, 504), (99, 619)], [(100, 507), (101, 690), (102, 693), (103, 557), (104, 818), (105, 959), (106, 1021), (107, 1040), (108, 1046), (109, 1028)], [(110, 1127), (111, 956), (112, 972), (113, 992), (114, 976), (115, 1004), (116, 1000), (117, 996), (118, 988), (119, 984)], [(120, 980), (121, 1013), (122, 1009), (123, 968), (124, 964), (125, 1017), (126, 1025), (127, 1070), (128, 1066), (129, 1078)], [(130, 1062), (131, 1074), (132, 1058), (133, 1050), (134, 1054), (135, 1043), (136, 1032), (137, 1036), (138, 1082), (139, 1087)], [(140, 1116), (141, 1095), (142, 1091), (143, 1103), (144, 1099), (145, 1112), (146, 1107), (147, 1120), (148, 1124), (149, 1131)], [(150, 1135), (151, 1139), (152, 1143), (153, 1147), (154, 1163), (155, 1167), (156, 1171), (157, 1159), (158, 1175), (159, 1155)], [(160, 1151), (161, 1183), (162, 1179), (163, 1191), (164, 1187), (165, 1203), (166, 1218), (167, 1207), (168, 1199), (169, 1215)], [(170, 1211), (171, 1226), (172, 1222), (173, 1195), (174, 1230), (175, 1234), (176, 1238), (177, 1242), (178, 1246), (179, 645)], [(180, 400)]]
theorem m_coLL_ok : ∀ l ∈ m_coLL, ∀ e ∈ l, m_nth lw_tbl e.2 = some (.code (m_y e.1) (m_b e.1) (m_nl e.1) (m_rt e.1)) := List.forall_mem_cons.mpr ⟨m_co_0, List.forall_mem_cons.mpr ⟨m_co_10, List.forall_mem_cons.mpr ⟨m_co_20, List.forall_mem_cons.mpr ⟨m_co_30, List.forall_mem_cons.mpr ⟨m_co_40, List.forall_mem_cons.mpr ⟨m_co_50, List.forall_mem_cons.mpr ⟨m_co_60, List.forall_mem_cons.mpr ⟨m_co_70, List.forall_mem_cons.mpr ⟨m_co_80, List.forall_mem_cons.mpr ⟨m_co_90, List.forall_mem_cons.mpr ⟨m_co_100, List.forall_mem_cons.mpr ⟨m_co_110, List.forall_mem_cons.mpr ⟨m_co_120, List.forall_mem_cons.mpr ⟨m_co_130, List.forall_mem_cons.mpr ⟨m_co_140, List.forall_mem_cons.mpr ⟨m_co_150, List.forall_mem_cons.mpr ⟨m_co_160, List.forall_mem_cons.mpr ⟨m_co_170, List.forall_mem_cons.mpr ⟨m_co_180, fun _ h => absurd h List.not_mem_nil⟩⟩⟩⟩⟩⟩⟩⟩⟩⟩⟩⟩⟩⟩⟩⟩⟩⟩⟩
def m_isM (j : Nat) : Prop := j < 182 ∧ ¬ j = 181
theorem m_coLL_all : (List.range 182).all (fun j => j == 181 || m_coLL.any (fun l => l.any (fun e => e.1 == j))) = true := by decide +kernel
theorem m_code_in {j : Nat} (h : m_isM j) : Cond.code (m_y j) (m_b j) (m_nl j) (m_rt j) ∈ lw_good := by
  have h1 := List.all_eq_true.mp m_coLL_all j (List.mem_range.mpr h.1)
  rw [Bool.or_eq_true] at h1
  rcases h1 with h1 | h1
  · exact absurd (by simpa using h1) h.2
  · obtain ⟨l, hl, h2⟩ := List.any_eq_true.mp h1
    obtain ⟨e, he, h3⟩ := List.any_eq_true.mp h2
    have h4 := m_coLL_ok l hl e he
    have h5 : e.1 = j := by simpa using h3
    rw [h5, m_nth_eq] at h4
    exact List.mem_filter.mpr ⟨List.mem_of_getElem? h4, rfl⟩
/-- the words of a method: its code, and all that the tables keep -/
def m_wsM (j : Nat) : List Cond := .code (m_y j) (m_b j) (m_nl j) (m_rt j) :: lw_good
theorem m_good {w : Cond} (h : w ∈ lw_good) : w ∈ lw_good ∧ ((w.onTables && w.keeps) = true ∨ ∃ t, w = .arrayClass t) := ⟨h, good_of_word (lw_good_ok h)⟩
theorem m_wsM_in {j : Nat} (h : m_isM j) : GoodIn lw_good (m_wsM j) := by
  intro w hw
  rcases List.mem_cons.mp hw with rfl | hw
  · exact m_good (m_code_in h)
  · exact m_good hw
theorem m_cn_ne (k : Nat) : m_cn k ≠ "java/lang/invoke/MethodHandle" ∧ m_cn k ≠ "java/lang/invoke/VarHandle" := by
  unfold m_cn
  rw [List.getD_eq_getElem?_getD]
  cases hk : m_cnL[k]? with
  | none => exact ⟨by decide, by decide⟩
  | some x =>
    have h1 : ∀ x ∈ m_cnL, x ≠ "java/lang/invoke/MethodHandle" ∧ x ≠ "java/lang/invoke/VarHandle" := by decide +kernel
    exact h1 x (List.mem_of_getElem? hk)
theorem m_calls_sp {j : Nat} (h : m_calls j = true) : Cond.initialized (m_y j).cls ∈ lw_good ∧ (m_y j).cls = m_cn (m_oc j) ∧ (parseMethodDescriptor (m_y j).desc).map (fun d => d.parameters.length) = some (m_na j) ∧ m_nl j ≤ 40 ∧ m_isM j := by
  simp only [m_calls, Bool.and_eq_true, decide_eq_true_eq] at h
  exact ⟨m_hi_in h.1.1, h.1.2.1, h.1.2.2.1, h.1.2.2.2.1, h.2⟩
theorem m_pmV_in {o k j : Nat} (h : (o, k, j) ∈ m_pmV) : Cond.methodLink (m_cn o) k (m_y j) ∈ lw_good ∧ m_callV j = true := by
  obtain ⟨z, hz⟩ := m_zip m_pmV_ln m_pmV_lk h
  have h2 := List.all_eq_true.mp m_pmV_q _ h
  exact ⟨m_hi_in hz, List.all_eq_true.mp m_qV_ok j (List.contains_iff_mem.mp h2)⟩
theorem m_pmS_in {o k j : Nat} (h : (o, k, j) ∈ m_pmS) : Cond.methodLink (m_cn o) k (m_y j) ∈ lw_good ∧ m_callS j = true := by
  obtain ⟨z, hz⟩ := m_zip m_pmS_ln m_pmS_lk h
  have h2 := List.all_eq_true.mp m_pmS_q _ (List.mem_append_left _ h)
  exact ⟨m_hi_in hz, List.all_eq_true.mp m_qS_ok j (List.contains_iff_mem.mp h2)⟩
theorem m_pmSN_in {o k j : Nat} (h : (o, k, j) ∈ m_pmSN) : Cond.methodLinkNest (m_cn o) k (m_y j) m_host ∈ m_nw ∧ m_callS j = true := by
  have h2 := List.all_eq_true.mp m_pmS_q _ (List.mem_append_right _ h)
  refine ⟨?_, List.all_eq_true.mp m_qS_ok j (List.contains_iff_mem.mp h2)⟩
  unfold m_nw
  exact List.mem_append_left _ (List.mem_append_right _ (List.mem_map.mpr ⟨_, h, rfl⟩))
theorem m_pmI_in {o k j : Nat} (h : (o, k, j) ∈ m_pmI) : Cond.methodLink (m_cn o) k (m_y j) ∈ lw_good ∧ m_inits j = true := by
  obtain ⟨z, hz⟩ := m_zip m_pmI_ln m_pmI_lk h
  have h2 := List.all_eq_true.mp m_pmI_q _ (List.mem_append_left _ h)
  exact ⟨m_hi_in hz, List.all_eq_true.mp m_qI_ok j (List.contains_iff_mem.mp h2)⟩
theorem m_pmIN_in {o k j : Nat} (h : (o, k, j) ∈ m_pmIN) : Cond.methodLinkNest (m_cn o) k (m_y j) m_host ∈ m_nw ∧ m_inits j = true := by
  have h2 := List.all_eq_true.mp m_pmI_q _ (List.mem_append_right _ h)
  refine ⟨?_, List.all_eq_true.mp m_qI_ok j (List.contains_iff_mem.mp h2)⟩
  unfold m_nw
  exact List.mem_append_right _ (List.mem_map.mpr ⟨_, h, rfl⟩)
def m_Pc (E : m_AE) (D : va_G) (ty : Nat → ClassId) (X : Nat → List Int32) (as : List Value) (h : m_H) : Array Value → State → Prop := fun a U => a = (as.map (m_rv E)).toArray ∧ m_B E D ty X h U
def m_Qc (E : m_AE) (D : va_G) (ty : Nat → ClassId) (X : Nat → List Int32) (v : Option Value) (h : m_H) : Array Value → State → Outcome → State → Prop := fun _ st o t => o = .returned (v.map (m_rv E)) ∧ m_B E D ty X h t ∧ va_F (m_A E) st t
/-- what the called methods do is what the small machine says -/
def m_Met (l : Launch) (E : m_AE) (D : va_G) (ty : Nat → ClassId) (X : Nat → List Int32) (call : Nat → List Value → m_H → Option m_R) (d : Nat) : Prop :=
  ∀ (j : Nat) (as : List Value) (h : m_H) (v : Option Value) (h' : m_H), m_isM j → call j as h = some (v, h') → (h.length ≤ h'.length ∧ m_sz h ≤ m_sz h') ∧ Met l (m_y j) (m_wsM j) { frames := d, cells := h'.length - h.length, slots := m_sz h' - m_sz h, locals := 100 * d } (m_Pc E D ty X as h) (m_Qc E D ty X v h') (h'.length - h.length) (m_sz h' - m_sz h) (m_A E)
theorem m_Pc_blind {E : m_AE} {D : va_G} {ty : Nat → ClassId} {X : Nat → List Int32} {as : List Value} {h : m_H} : FrameBlind (m_Pc E D ty X as h) := by
  rintro a U g mk ⟨h1, h2, h3, h4, h5⟩
  exact ⟨h1, h2, h3, h4.same (U := U.calling g mk a) rfl, h5.kept (U := U.calling g mk a) (Vm.Alike.refl U.vm) (fun _ _ _ => rfl)⟩
theorem m_cat_sum {E : m_AE} {r : List Value} (h : r.length ≤ 4) : ((r.map (m_rv E)).map fun v => v.category).sum ≤ 8 := by
  have h1 : ∀ r : List Value, ((r.map (m_rv E)).map fun v => v.category).sum ≤ 2 * r.length := by
    intro r
    induction r with
    | nil => exact Nat.le_refl _
    | cons v r ih =>
      have h2 : (m_rv E v).category ≤ 2 := by cases v <;> simp [m_rv, Value.category]
      simp only [List.map_cons, List.sum_cons, List.length_cons]
      omega
  have := h1 r
  omega
section CALL
variable {p : Program} {l : Launch} {e : Env} {R : Room} {s : State} {m : MethodId} {args : Array Value} {below : List Frame} {meth : Method} {c : Code} {Q : State → Prop}
variable {E : m_AE} {D : va_G} {ty : Nat → ClassId} {X : Nat → List Int32} {i d n0 z0 : Nat} {call : Nat → List Value → m_H → Option m_R} {len : Nat} {a : Int} {b pc : Nat} {lv : m_L} {st : List Value} {h : m_H} {C' : m_C}
variable {H : Heap} {locs : List Loc} {ls : Array Slot} {v : Option Value} {h' : m_H} {as : List Value} {r : List Value}
theorem m_size_ge {H : Heap} (hP : va_P D vwCl (m_ws E ty h) H) (hb : E.1 ≤ H.size) : E.1 + h.length ≤ H.size := by
  cases hn : h.length with
  | zero => exact hb
  | succ n =>
    have h1 : (m_ws E ty h)[n]? = some (E.1 + n, m_cell E ty h[n]) := by
      rw [m_ws_get, List.getElem?_eq_getElem (by omega)]
      rfl
    have := (hP _ _ h1).lt
    dsimp only at this
    omega
/-- the world at a call -/
theorem m_B_at {U : State} (hsz : s.heap.size = E.1 + n0) (hKn : m_Kn D ty s) (hEx : m_Ex E X s s.heap) (hP : va_P D vwCl (m_ws E ty h) H) (hS : va_S (m_A E) s.heap H locs) (hn : n0 ≤ h.length) (hH : H.size ≤ s.heap.size + (h.length - n0)) (hU : U.heap = H) (hW : s.WarmedH U.vm) : m_B E D ty X h U := by
  refine ⟨?_, by rw [hU]; exact hP, hKn.warm hW, hEx.kept hW.alike (fun q h1 h2 => by rw [hU]; exact hS.2.1 q h1 h2)⟩
  rw [hU]
  have h1 := m_size_ge hP (by have := hS.1; omega)
  omega
/-- behind a call -/
theorem m_back (hsz : s.heap.size = E.1 + n0) (hr : va_Run p l e R s m args below meth c H locs (h.length - n0) (m_sz h - z0) (h'.length - h.length) (m_sz h' - m_sz h) (F0 m pc ls (st.map (m_rv E))) (r.map (m_rv E)) (m_Qc E D ty X v h' (as.map (m_rv E)).toArray) (m_A E))
    (hS : va_S (m_A E) s.heap H locs) (hl : lv_has ls (m_nl i) (lv.map (m_rq E))) (hn : n0 ≤ h.length) (hz : z0 ≤ m_sz h) (hm : h.length ≤ h'.length ∧ m_sz h ≤ m_sz h')
    (k : m_At E D ty i n0 z0 p l e R s m args below meth c Q (pc + 3, lv, v.toList ++ r, h')) : W p l e R s m args below meth c H locs (h.length - n0) (m_sz h - z0) Q (F0 m pc ls (st.map (m_rv E))) := by
  intro T hT Y
  obtain ⟨w, st₀, t, T', L, h0, X', hL, e1, e2, ⟨hv, hB, hz1, hk⟩, stp⟩ := hr T hT Y
  have hw : w = v.map (m_rv E) := by cases hv; rfl
  subst hw
  rw [h0] at hz1 hk
  have kz := k T'.heap (locs ++ L) ls (by rw [e1]; exact hB.2.1)
    ⟨Nat.le_trans hS.1 (by rw [e1]; exact hz1), fun q g1 g2 => by rw [e1, hk q (Nat.lt_of_lt_of_le g1 hS.1) g2]; exact hS.2.1 q g1 g2, fun q hq => by
      rcases List.mem_append.mp hq with g | g
      · exact hS.2.2 q g
      · exact hL q g⟩ hl
  dsimp only at kz
  have e3 : h'.length - n0 = h.length - n0 + (h'.length - h.length) := by omega
  have e4 : m_sz h' - z0 = m_sz h - z0 + (m_sz h' - m_sz h) := by omega
  rw [e3, e4] at kz
  have e5 : (v.toList ++ r).map (m_rv E) = (v.map (m_rv E)).toList ++ r.map (m_rv E) := by
    rw [List.map_append]
    cases v <;> rfl
  rw [e5] at kz
  obtain ⟨t2, a1, b1⟩ := kz T' rfl X'
  exact ⟨t2, stp t2 a1, b1⟩
theorem m_cwB {j : Nat} (hts : ∀ w ∈ lw_good, w.before args s = true) (hc : m_calls j = true) {d' : Nat} (hR : d' + 1 ≤ R.frames ∧ 100 * (d' + 1) ≤ R.locals) {o q mc ms : Nat} (hk : Cond.methodLink (m_cn o) q (m_y j) ∈ lw_good) :
    CallB R s args (m_cn o) q (m_y j) (m_b j) (m_nl j) (m_rt j) (m_wsM j) { frames := d', cells := mc, slots := ms, locals := 100 * d' } mc ms (m_na j) := by
  obtain ⟨g1, g2, g3, g4, g5⟩ := m_calls_sp hc
  refine callB_of (m_na j) hts (m_wsM_in g5) rfl rfl rfl (hts _ g1) (hts _ hk) ⟨?_, ?_, g3⟩ ⟨hR.1, ?_⟩
  · rw [g2]; exact (m_cn_ne _).1
  · rw [g2]; exact (m_cn_ne _).2
  · show 8 + (m_nl j + 11) + 100 * d' ≤ R.locals
    omega
theorem m_cnB {j : Nat} (hts : ∀ w ∈ lw_good, w.before args s = true) (hc : m_calls j = true) {d' : Nat} (hR : d' + 1 ≤ R.frames ∧ 100 * (d' + 1) ≤ R.locals) {o q mc ms : Nat} (hk : va_Nw (.methodLinkNest (m_cn o) q (m_y j) m_host) s) :
    va_CN R s args (m_cn o) q (m_y j) m_host (m_b j) (m_nl j) (m_rt j) (m_wsM j) { frames := d', cells := mc, slots := ms, locals := 100 * d' } mc ms (m_na j) := by
  obtain ⟨g1, g2, g3, g4, g5⟩ := m_calls_sp hc
  refine va_cnB (m_na j) hts (m_wsM_in g5) rfl rfl rfl hk (hts _ g1) ⟨?_, ?_, g3⟩ ⟨hR.1, ?_⟩
  · rw [g2]; exact (m_cn_ne _).1
  · rw [g2]; exact (m_cn_ne _).2
  · show 8 + (m_nl j + 11) + 100 * d' ≤ R.locals
    omega
end CALL
end
section
/-! the steps that call -/
theorem m_cl_cn {t : Nat} (h : t < 11) : (m_cl t).1 = m_cn t := by
  have : t = 0 ∨ t = 1 ∨ t = 2 ∨ t = 3 ∨ t = 4 ∨ t = 5 ∨ t = 6 ∨ t = 7 ∨ t = 8 ∨ t = 9 ∨ t = 10 := by omega
  rcases this with rfl | rfl | rfl | rfl | rfl | rfl | rfl | rfl | rfl | rfl | rfl <;> rfl
theorem m_cpy_len {us vs : List Value} {x y w : Nat} (h1 : x + w ≤ us.length) (h2 : y + w ≤ vs.length) : (vs.take y ++ ((us.drop x).take w ++ vs.drop (y + w))).length = vs.length := by
  simp only [List.length_append, List.length_take, List.length_drop]
  omega
theorem m_cpy {us vs : List Value} {x y w : Nat} (h1 : x + w ≤ us.length) (h2 : y + w ≤ vs.length) : va_cpy (fun q => m_i1 (us.getD q (.int 0))) (fun q => m_i1 (vs.getD q (.int 0))) x y w = fun q => m_i1 ((vs.take y ++ ((us.drop x).take w ++ vs.drop (y + w))).getD q (.int 0)) := by
  funext q
  unfold va_cpy
  simp only [List.getD_eq_getElem?_getD, List.getElem?_append, List.length_take, List.length_drop, List.getElem?_take, List.getElem?_drop]
  by_cases g1 : y ≤ q ∧ q < y + w
  · rw [if_pos g1, if_neg (by omega), if_pos (by omega), if_pos (by omega)]
    congr 3
    omega
  · rw [if_neg g1]
    by_cases g2 : q < y
    · rw [if_pos (by omega), if_pos g2]
    · rw [if_neg (by omega), if_neg (by omega)]
      congr 3
      omega
theorem m_acp_sp {h h' : m_H} {x q : Nat} {sp dp n : Int32} (hE : m_acp h x sp q dp n = some h') : ∃ i j w us vs, m_ix sp = some i ∧ m_ix dp = some j ∧ m_ix n = some w ∧ x < 1000000 ∧ m_nth h x = some (20, us) ∧ q < 1000000 ∧ m_nth h q = some (20, vs) ∧ i + w ≤ us.length ∧ j + w ≤ vs.length ∧ h' = h.set q (20, vs.take j ++ ((us.drop i).take w ++ vs.drop (j + w))) := by
  unfold m_acp at hE
  split at hE
  · rename_i i j w hi hj hw
    split at hE
    · rename_i t us t' vs ho ho'
      split at hE
      · rename_i e3
        obtain ⟨rfl, rfl, e4, e5⟩ := e3
        cases hE
        exact ⟨i, j, w, us, vs, hi, hj, hw, (m_ob_nth ho).1, (m_ob_nth ho).2, (m_ob_nth ho').1, (m_ob_nth ho').2, e4, e5, rfl⟩
      · cases hE
    · cases hE
  · cases hE
theorem m_po_in {o k : Nat} (h : (o, k) ∈ m_po) : Cond.methodLink (m_cn o) k objectInit ∈ lw_good ∧ Cond.instanceMethod objectInit ∈ lw_good ∧ Cond.code objectInit ⟨#[0xb1]⟩ 1 none ∈ lw_good := by
  have h1 := List.all_eq_true.mp m_po_ok _ h
  simp only [Bool.and_eq_true] at h1
  exact ⟨m_has_in h1.1, m_has_in h1.2.1, m_has_in h1.2.2⟩
theorem m_pa_in {o k : Nat} (h : (o, k) ∈ m_pa) : Cond.methodLink (m_cn o) k arraycopyName ∈ lw_good ∧ Cond.native arraycopyName ∈ lw_good ∧ Cond.static arraycopyName ∈ lw_good ∧ Cond.initialized "java/lang/System" ∈ lw_good := by
  have h1 := List.all_eq_true.mp m_pa_ok _ h
  simp only [Bool.and_eq_true] at h1
  exact ⟨m_has_in h1.1, m_has_in h1.2.1, m_has_in h1.2.2.1, m_has_in h1.2.2.2⟩
theorem m_acp_room : nativeFrameWords "java/lang/System" "arraycopy" 5 + 11 ≤ 90 := by decide +kernel
section HEAP
variable {p : Program} {l : Launch} {e : Env} {R : Room} {s : State} {m : MethodId} {args : Array Value} {below : List Frame} {meth : Method} {c : Code} {Q : State → Prop}
variable {E : m_AE} {D : va_G} {ty : Nat → ClassId} {X : Nat → List Int32} {i d n0 z0 : Nat} {call : Nat → List Value → m_H → Option m_R} {len : Nat} {a : Int} {b pc : Nat} {lv : m_L} {st : List Value} {h : m_H} {C' : m_C}
theorem k_invokevirtual (F : m_Fix E D ty X i d n0 p R s m args meth c) {q : Nat} (hok : m_ok i pc (.invokevirtual q, len, a, b) = true) (hs : m_stp X call (.invokevirtual q, len, a, b) pc lv st h = some (.inl C')) (hn : n0 ≤ h.length) (hz : z0 ≤ m_sz h) (hc1 : C'.2.2.2.length - n0 ≤ R.cells) (hc2 : m_sz C'.2.2.2 - z0 ≤ R.slots) (hM : m_Met l E D ty X call d)
    (k : m_At E D ty i n0 z0 p l e R s m args below meth c Q C') : m_At E D ty i n0 z0 p l e R s m args below meth c Q (pc, lv, st, h) := by
  intro H locs ls hP hS hl
  dsimp only at hP hl ⊢
  obtain ⟨⟨hx, hb, hml, hown, hts⟩, hKn, hEx, hsz, hi, hini, hR⟩ := F
  obtain ⟨hdg, hI⟩ := m_ok_sp hok
  obtain ⟨e1, e2, e2b⟩ : len = 3 ∧ (m_oc i, q, a.toNat) ∈ m_pmV ∧ b = m_na a.toNat := of_decide_eq_true hI
  subst e1
  obtain ⟨g1, g2⟩ := m_pmV_in e2
  simp only [m_callV, Bool.and_eq_true, decide_eq_true_eq] at g2
  obtain ⟨g3, g4, g5, g6⟩ := g2
  rw [m_s_invokevirtual] at hs
  split at hs
  · rename_i x r heq
    split at hs
    · rename_i t vs ho
      obtain ⟨ho1, ho2⟩ := m_ob_nth ho
      split at hs
      · rename_i e3
        obtain ⟨e3, e4, e5⟩ := e3
        split at hs
        · rename_i v h' hcall
          cases hs
          obtain ⟨hm, hMet⟩ := hM _ _ _ _ _ (m_calls_sp g5).2.2.2.2 hcall
          dsimp only at hc1 hc2
          have hrl : m_rv E (.ref x) = .ref (m_rl E x) := rfl
          have hst2 : st.map (m_rv E) = (((st.take b).reverse).map (m_rv E)).reverse ++ .ref (m_rl E x) :: r.map (m_rv E) := by
            rw [← hrl, ← List.map_cons, ← heq, List.map_reverse, List.reverse_reverse, ← List.map_append, List.take_append_drop]
          have he : (m_ws E ty h)[x]? = some (E.1 + x, .inr (t, vs.map (m_rv E))) := by
            rw [m_ws_at ho2, m_cell_o E ty (by omega)]
          refine m_W_sz (fun hH => ?_)
          refine m_back (X := X) hsz (as := .ref x :: (st.take b).reverse) ?_ hS hl hn hz hm k
          have hlen : (((st.take b).reverse).map (m_rv E)).length = m_na a.toNat := by
            rw [List.length_map, List.length_reverse, List.length_take, ← e2b]
            omega
          have hpre : PreV s H (m_cn (m_oc a.toNat)) (m_rl E x) (m_Pc E D ty X (.ref x :: (st.take b).reverse) h) (((st.take b).reverse).map (m_rv E)) := by
            refine ⟨m_Pc_blind, ?_, fun U hU hW => ⟨by rw [List.map_cons, hrl], m_B_at hsz hKn hEx hP hS hn hH hU hW⟩⟩
            have := va_recv hKn.1 hP (m_cl_at (i := t) (by omega)) he
            dsimp only at this
            rw [m_cl_cn (by omega), e3] at this
            rw [m_rl_in E ho1]
            exact this
          have hrm : h.length - n0 + (h'.length - h.length) ≤ R.cells ∧ m_sz h - z0 + (m_sz h' - m_sz h) ≤ R.slots := ⟨by omega, by omega⟩
          exact va_runV ⟨hx, hb, hml, hown, hts⟩ hMet ⟨m_cwB hts g5 hR g1, hts _ (m_hi_in g3), hts _ (m_hi_in g4)⟩ hpre rfl hlen hl.1 hst2 (lv_room (m_cat_sum e4)) hdg hrm
        · cases hs
      · cases hs
    · cases hs
  · cases hs
theorem k_invokestatic (F : m_Fix E D ty X i d n0 p R s m args meth c) {q : Nat} (hok : m_ok i pc (.invokestatic q, len, a, b) = true) (hs : m_stp X call (.invokestatic q, len, a, b) pc lv st h = some (.inl C')) (hn : n0 ≤ h.length) (hz : z0 ≤ m_sz h) (hc1 : C'.2.2.2.length - n0 ≤ R.cells) (hc2 : m_sz C'.2.2.2 - z0 ≤ R.slots) (hM : m_Met l E D ty X call d)
    (k : m_At E D ty i n0 z0 p l e R s m args below meth c Q C') : m_At E D ty i n0 z0 p l e R s m args below meth c Q (pc, lv, st, h) := by
  intro H locs ls hP hS hl
  dsimp only at hP hl ⊢
  obtain ⟨⟨hx, hb, hml, hown, hts⟩, hKn, hEx, hsz, hi, hini, hR⟩ := F
  obtain ⟨hdg, hI⟩ := m_ok_sp hok
  rw [m_s_invokestatic] at hs
  by_cases h9 : a.toNat = 9999
  · rw [if_pos h9] at hs
    have hI : (if a.toNat = 9999 then decide (len = 3 ∧ (m_oc i, q) ∈ m_pa) else decide (len = 3 ∧ ((m_oc i, q, a.toNat) ∈ m_pmS ∨ (m_oc i, q, a.toNat) ∈ m_pmSN) ∧ b = m_na a.toNat)) = true := hI
    rw [if_pos h9, decide_eq_true_eq] at hI
    obtain ⟨e1, e2⟩ := hI
    subst e1
    obtain ⟨p1, p2, p3, p4⟩ := m_pa_in e2
    split at hs
    · rename_i n dp y sp x r
      split at hs
      · rename_i h' hE
        split at hs
        · rename_i hr4
          cases hs
          obtain ⟨i1, j1, w1, us, vs, f1, f2, f3, f4, f5, f6, f7, f8, f9, rfl⟩ := m_acp_sp hE
          obtain ⟨u1, u2⟩ := m_ix_sp f1
          obtain ⟨u3, u4⟩ := m_ix_sp f2
          obtain ⟨u5, u6⟩ := m_ix_sp f3
          show W _ _ _ _ _ _ _ _ _ _ _ _ _ _ _ (F0 m pc ls (.int n :: .int dp :: .ref (m_rl E y) :: .int sp :: .ref (m_rl E x) :: r.map (m_rv E)))
          rw [m_rl_in E f4, m_rl_in E f6]
          refine va_copyi hx hb (hml.trans hl.1.symm) hown (hts _ p1) (hts _ p2) (hts _ p3) (hts _ p4) hKn.1 hP (m_ws_D E ty h) hS x y 0 0 (by rw [m_ws_at f5, m_cell_i]) (by rw [m_ws_at f7, m_cell_i]) rfl rfl rfl u1 u3 u5 (by rw [u2, u6]; exact f8) (by rw [u4, u6]; exact f9) (fun _ _ => rfl) (by omega) ?_ hdg (fun H1 locs1 hP1 _ hS1 => ?_)
          · have h1 := m_cat_sum (E := E) hr4
            have h2 := m_acp_room
            omega
          · have kz := k H1 locs1 ls (by
              show va_P D vwCl (m_ws E ty (h.set y (20, vs.take j1 ++ ((us.drop i1).take w1 ++ vs.drop (j1 + w1))))) H1
              rw [m_ws_set, m_cell_i, ← m_cpy f8 f9, m_cpy_len f8 f9]
              rw [u2, u4, u6] at hP1
              exact hP1) hS1 hl
            dsimp only at kz
            rw [List.length_set, m_sz_set f7 (m_cpy_len f8 f9)] at kz
            exact kz
        · cases hs
      · cases hs
    · cases hs
  · rw [if_neg h9] at hs
    have hI : (if a.toNat = 9999 then decide (len = 3 ∧ (m_oc i, q) ∈ m_pa) else decide (len = 3 ∧ ((m_oc i, q, a.toNat) ∈ m_pmS ∨ (m_oc i, q, a.toNat) ∈ m_pmSN) ∧ b = m_na a.toNat)) = true := hI
    rw [if_neg h9, decide_eq_true_eq] at hI
    obtain ⟨e1, e2, e2b⟩ := hI
    subst e1
    have hcs : m_callS a.toNat = true := by
      rcases e2 with e2 | e2
      · exact (m_pmS_in e2).2
      · exact (m_pmSN_in e2).2
    simp only [m_callS, Bool.and_eq_true] at hcs
    obtain ⟨g3, g5⟩ := hcs
    split at hs
    · rename_i e3
      obtain ⟨e4, e5⟩ := e3
      split at hs
      · rename_i v h' hcall
        cases hs
        obtain ⟨hm, hMet⟩ := hM _ _ _ _ _ (m_calls_sp g5).2.2.2.2 hcall
        dsimp only at hc1 hc2
        have hst2 : st.map (m_rv E) = (((st.take b).reverse).map (m_rv E)).reverse ++ (st.drop b).map (m_rv E) := by
          rw [List.map_reverse, List.reverse_reverse, ← List.map_append, List.take_append_drop]
        have hlen : (((st.take b).reverse).map (m_rv E)).length = m_na a.toNat := by
          rw [List.length_map, List.length_reverse, List.length_take, ← e2b]
          omega
        refine m_W_sz (fun hH => ?_)
        refine m_back (X := X) hsz (as := (st.take b).reverse) ?_ hS hl hn hz hm k
        have hpre : PreS s H (m_Pc E D ty X (st.take b).reverse h) (((st.take b).reverse).map (m_rv E)) := ⟨m_Pc_blind, fun U hU hW => ⟨rfl, m_B_at hsz hKn hEx hP hS hn hH hU hW⟩⟩
        have hrm : h.length - n0 + (h'.length - h.length) ≤ R.cells ∧ m_sz h - z0 + (m_sz h' - m_sz h) ≤ R.slots := ⟨by omega, by omega⟩
        rcases e2 with e2 | e2
        · exact va_runS ⟨hx, hb, hml, hown, hts⟩ hMet ⟨m_cwB hts g5 hR (m_pmS_in e2).1, hts _ (m_hi_in g3)⟩ hpre rfl hlen hl.1 hst2 (lv_room (m_cat_sum e4)) hdg hrm
        · exact va_runSN ⟨hx, hb, hml, hown, hts⟩ hMet ⟨m_cnB hts g5 hR (hKn.2.1 _ (m_pmSN_in e2).1), hts _ (m_hi_in g3), trivial⟩ hpre rfl hlen hl.1 hst2 (lv_room (m_cat_sum e4)) hdg hrm
      · cases hs
    · cases hs
theorem k_invokespecial (F : m_Fix E D ty X i d n0 p R s m args meth c) {q : Nat} (hok : m_ok i pc (.invokespecial q, len, a, b) = true) (hs : m_stp X call (.invokespecial q, len, a, b) pc lv st h = some (.inl C')) (hn : n0 ≤ h.length) (hz : z0 ≤ m_sz h) (hc1 : C'.2.2.2.length - n0 ≤ R.cells) (hc2 : m_sz C'.2.2.2 - z0 ≤ R.slots) (hM : m_Met l E D ty X call d)
    (k : m_At E D ty i n0 z0 p l e R s m args below meth c Q C') : m_At E D ty i n0 z0 p l e R s m args below meth c Q (pc, lv, st, h) := by
  intro H locs ls hP hS hl
  dsimp only at hP hl ⊢
  obtain ⟨⟨hx, hb, hml, hown, hts⟩, hKn, hEx, hsz, hi, hini, hR⟩ := F
  obtain ⟨hdg, hI⟩ := m_ok_sp hok
  rw [m_s_invokespecial] at hs
  by_cases h9 : a.toNat = 9998
  · rw [if_pos h9] at hs
    have hI : (if a.toNat = 9998 then decide (len = 3 ∧ (m_oc i, q) ∈ m_po) else decide (len = 3 ∧ ((m_oc i, q, a.toNat) ∈ m_pmI ∨ (m_oc i, q, a.toNat) ∈ m_pmIN) ∧ b = m_na a.toNat)) = true := hI
    rw [if_pos h9, decide_eq_true_eq] at hI
    obtain ⟨e1, e2⟩ := hI
    subst e1
    obtain ⟨p1, p2, p3⟩ := m_po_in e2
    split at hs
    · rename_i x r
      split at hs
      · rename_i hr4
        cases hs
        refine W.objInit hx hb hown (hts _ p1) (hts _ p2) (hts _ p3) (g := F0 m pc ls ((Value.ref x :: r).map (m_rv E))) rfl (hl.1.trans hml.symm) rfl hdg (by omega) ?_ (k _ _ _ hP hS hl)
        have h1 := m_cat_sum (E := E) hr4
        show 2 * 0 + _ + 12 ≤ R.locals
        omega
      · cases hs
    · cases hs
  · rw [if_neg h9] at hs
    have hI : (if a.toNat = 9998 then decide (len = 3 ∧ (m_oc i, q) ∈ m_po) else decide (len = 3 ∧ ((m_oc i, q, a.toNat) ∈ m_pmI ∨ (m_oc i, q, a.toNat) ∈ m_pmIN) ∧ b = m_na a.toNat)) = true := hI
    rw [if_neg h9, decide_eq_true_eq] at hI
    obtain ⟨e1, e2, e2b⟩ := hI
    subst e1
    have hcs : m_inits a.toNat = true := by
      rcases e2 with e2 | e2
      · exact (m_pmI_in e2).2
      · exact (m_pmIN_in e2).2
    simp only [m_inits, Bool.and_eq_true, decide_eq_true_eq] at hcs
    obtain ⟨g3, g4, g5, g6⟩ := hcs
    split at hs
    · rename_i x r heq
      split at hs
      · rename_i e3
        obtain ⟨e4, e5, e6⟩ := e3
        split at hs
        · rename_i v h' hcall
          cases hs
          obtain ⟨hm, hMet⟩ := hM _ _ _ _ _ (m_calls_sp g5).2.2.2.2 hcall
          dsimp only at hc1 hc2
          have hrl : m_rv E (.ref x) = .ref (m_rl E x) := rfl
          have hst2 : st.map (m_rv E) = (((st.take b).reverse).map (m_rv E)).reverse ++ .ref (m_rl E x) :: r.map (m_rv E) := by
            rw [← hrl, ← List.map_cons, ← heq, List.map_reverse, List.reverse_reverse, ← List.map_append, List.take_append_drop]
          have hlen : (((st.take b).reverse).map (m_rv E)).length = m_na a.toNat := by
            rw [List.length_map, List.length_reverse, List.length_take, ← e2b]
            omega
          refine m_W_sz (fun hH => ?_)
          refine m_back (X := X) hsz (as := .ref x :: (st.take b).reverse) ?_ hS hl hn hz hm k
          have hpre : PreS s H (m_Pc E D ty X (.ref x :: (st.take b).reverse) h) (.ref (m_rl E x) :: ((st.take b).reverse).map (m_rv E)) := ⟨m_Pc_blind, fun U hU hW => ⟨by rw [List.map_cons, hrl], m_B_at hsz hKn hEx hP hS hn hH hU hW⟩⟩
          have hrm : h.length - n0 + (h'.length - h.length) ≤ R.cells ∧ m_sz h - z0 + (m_sz h' - m_sz h) ≤ R.slots := ⟨by omega, by omega⟩
          rcases e2 with e2 | e2
          · have hcw := m_cwB (mc := h'.length - h.length) (ms := m_sz h' - m_sz h) hts g5 hR (m_pmI_in e2).1
            rw [g6] at hcw
            exact va_runI ⟨hx, hb, hml, hown, hts⟩ hMet ⟨hcw, g4, hts _ (m_hi_in g3)⟩ hpre rfl hlen hl.1 hst2 (lv_room (m_cat_sum e4)) hdg hrm
          · have hcw := m_cnB (mc := h'.length - h.length) (ms := m_sz h' - m_sz h) hts g5 hR (hKn.2.1 _ (m_pmIN_in e2).1)
            rw [g6] at hcw
            exact va_runIN ⟨hx, hb, hml, hown, hts⟩ hMet ⟨hcw, g4, hts _ (m_hi_in g3)⟩ hpre rfl hlen hl.1 hst2 (lv_room (m_cat_sum e4)) hdg hrm
        · cases hs
      · cases hs
    · cases hs
end HEAP
end
section
/-! the small machine, run, is the machine -/
def m_le (h h' : m_H) : Prop := h.length ≤ h'.length ∧ m_sz h ≤ m_sz h'
theorem m_le_rf (h : m_H) : m_le h h := ⟨Nat.le_refl _, Nat.le_refl _⟩
theorem m_le_tr {a b c : m_H} (h1 : m_le a b) (h2 : m_le b c) : m_le a c := ⟨Nat.le_trans h1.1 h2.1, Nat.le_trans h1.2 h2.2⟩
def m_out : m_C ⊕ m_R → m_H
  | .inl C => C.2.2.2
  | .inr q => q.2
theorem m_le_set {h : m_H} {k t t' : Nat} {us vs : List Value} (ho : m_ob h k = some (t, us)) (hl : vs.length = us.length) : m_le h (h.set k (t', vs)) := by
  refine ⟨by rw [List.length_set]; exact Nat.le_refl _, ?_⟩
  rw [m_sz_set (m_ob_nth ho).2 hl]
  exact Nat.le_refl _
theorem m_le_add {h h' : m_H} {t : Nat} {vs : List Value} (ha : m_add h t vs = some h') : m_le h h' := by
  obtain ⟨-, rfl⟩ := m_add_sp ha
  refine ⟨by simp, ?_⟩
  rw [m_sz_add]
  exact Nat.le_add_right _ _
theorem m_le_se {h h' : m_H} {t x : Nat} {y : Int32} {v : Value} (ha : m_se h t x y v = some h') : m_le h h' := by
  obtain ⟨j, vs, -, h1, g1, -, rfl⟩ := m_se_sp ha
  refine m_le_set (t := t) (us := vs) ?_ (by simp)
  unfold m_ob
  rw [if_pos h1]
  exact g1
theorem m_le_acp {h h' : m_H} {x q : Nat} {sp dp n : Int32} (ha : m_acp h x sp q dp n = some h') : m_le h h' := by
  obtain ⟨i, j, w, us, vs, -, -, -, -, -, f6, f7, f8, f9, rfl⟩ := m_acp_sp ha
  refine m_le_set (t := 20) (us := vs) ?_ (m_cpy_len f8 f9)
  unfold m_ob
  rw [if_pos f6]
  exact f7
def m_mono (call : Nat → List Value → m_H → Option m_R) : Prop := ∀ j as h v h', call j as h = some (v, h') → m_le h h'
section RUN
variable {p : Program} {l : Launch} {e : Env} {R : Room} {s : State} {m : MethodId} {args : Array Value} {below : List Frame} {meth : Method} {c : Code} {Q : State → Prop}
variable {E : m_AE} {D : va_G} {ty : Nat → ClassId} {X : Nat → List Int32} {i d n0 z0 : Nat} {call : Nat → List Value → m_H → Option m_R} {len : Nat} {a : Int} {b pc : Nat} {lv : m_L} {st : List Value} {h : m_H} {C' : m_C}
set_option maxHeartbeats 4000000 in
theorem m_stp_mono (hcall : m_mono call) {en : m_E} {r : m_C ⊕ m_R} (hs : m_stp X call en pc lv st h = some r) : m_le h (m_out r) := by
  obtain ⟨ins, len, a, b⟩ := en
  unfold m_stp at hs
  dsimp only at hs
  split at hs
  all_goals (repeat' split at hs)
  all_goals first
    | (cases hs; done)
    | (cases hs; exact m_le_rf _)
    | (cases hs; exact m_le_add (by assumption))
    | (cases hs; exact m_le_se (by assumption))
    | (cases hs; exact m_le_acp (by assumption))
    | (cases hs; exact hcall _ _ _ _ _ (by assumption))
    | (cases hs; exact m_le_set (by assumption) (by simp))
theorem m_exec_mono (hcall : m_mono call) {code : List (Option m_E)} : ∀ (n pc : Nat) (lv : m_L) (st : List Value) (h : m_H) (v : Option Value) (h' : m_H), m_exec X call code n pc lv st h = some (v, h') → m_le h h' := by
  intro n
  induction n with
  | zero => intro pc lv st h v h' he; cases he
  | succ n ih =>
    intro pc lv st h v h' he
    simp only [m_exec] at he
    split at he
    · split at he
      · rename_i hs
        exact m_le_tr (m_stp_mono hcall hs) (ih _ _ _ _ _ _ he)
      · rename_i hs
        cases he
        exact m_stp_mono hcall hs
      · cases he
    · cases he
theorem m_run_mono : ∀ d, m_mono (m_run X d) := by
  intro d
  induction d with
  | zero => intro j as h v h' he; cases he
  | succ d ih =>
    intro j as h v h' he
    simp only [m_run] at he
    split at he
    · exact m_exec_mono ih _ _ _ _ _ _ _ he
    · cases he
theorem m_step (F : m_Fix E D ty X i d n0 p R s m args meth c) {en : m_E} (hok : m_ok i pc en = true) (hs : m_stp X call en pc lv st h = some (.inl C')) (hn : n0 ≤ h.length) (hz : z0 ≤ m_sz h) (hc1 : C'.2.2.2.length - n0 ≤ R.cells) (hc2 : m_sz C'.2.2.2 - z0 ≤ R.slots) (hM : m_Met l E D ty X call d)
    (k : m_At E D ty i n0 z0 p l e R s m args below meth c Q C') : m_At E D ty i n0 z0 p l e R s m args below meth c Q (pc, lv, st, h) := by
  obtain ⟨ins, len, a, b⟩ := en
  cases ins
  case iconst x1 => exact k_iconst F hok hs k
  case bipush x1 => exact k_bipush F hok hs k
  case sipush x1 => exact k_sipush F hok hs k
  case ldc x1 => exact k_ldc F hok hs k
  case ldc_w x1 => exact k_ldc_w F hok hs k
  case ldc2_w x1 => exact k_ldc2_w F hok hs k
  case aconst_null  => exact k_aconst_null F hok hs k
  case iload_n x1 => exact k_iload_n F hok hs k
  case iload x1 => exact k_iload F hok hs k
  case lload_n x1 => exact k_lload_n F hok hs k
  case lload x1 => exact k_lload F hok hs k
  case aload_n x1 => exact k_aload_n F hok hs k
  case aload x1 => exact k_aload F hok hs k
  case istore_n x1 => exact k_istore_n F hok hs k
  case istore x1 => exact k_istore F hok hs k
  case astore_n x1 => exact k_astore_n F hok hs k
  case astore x1 => exact k_astore F hok hs k
  case iinc x1 x2 => exact k_iinc F hok hs k
  case iadd  => exact k_iadd F hok hs k
  case isub  => exact k_isub F hok hs k
  case imul  => exact k_imul F hok hs k
  case iand  => exact k_iand F hok hs k
  case ior  => exact k_ior F hok hs k
  case ixor  => exact k_ixor F hok hs k
  case idiv  => exact k_idiv F hok hs k
  case irem  => exact k_irem F hok hs k
  case ishl  => exact k_ishl F hok hs k
  case ishr  => exact k_ishr F hok hs k
  case iushr  => exact k_iushr F hok hs k
  case land  => exact k_land F hok hs k
  case lor  => exact k_lor F hok hs k
  case lshl  => exact k_lshl F hok hs k
  case lshr  => exact k_lshr F hok hs k
  case lushr  => exact k_lushr F hok hs k
  case ineg  => exact k_ineg F hok hs k
  case i2l  => exact k_i2l F hok hs k
  case l2i  => exact k_l2i F hok hs k
  case dup  => exact k_dup F hok hs k
  case dup2  => exact k_dup2 F hok hs k
  case pop  => exact k_pop F hok hs k
  case ifCond c q =>
    cases c
    · exact k_ifCond_eq F hok hs k
    · exact k_ifCond_ne F hok hs k
    · exact k_ifCond_lt F hok hs k
    · exact k_ifCond_ge F hok hs k
    · exact k_ifCond_gt F hok hs k
    · exact k_ifCond_le F hok hs k
  case if_icmp c q =>
    cases c
    · exact k_if_icmp_eq F hok hs k
    · exact k_if_icmp_ne F hok hs k
    · exact k_if_icmp_lt F hok hs k
    · exact k_if_icmp_ge F hok hs k
    · exact k_if_icmp_gt F hok hs k
    · exact k_if_icmp_le F hok hs k
  case ifnull x1 => exact k_ifnull F hok hs k
  case ifnonnull x1 => exact k_ifnonnull F hok hs k
  case goto x1 => exact k_goto F hok hs k
  case tableswitch x1 x2 x3 x4 => exact k_tableswitch F hok hs k
  case lookupswitch x1 x2 => exact k_lookupswitch F hok hs k
  case getfield x1 => exact k_getfield F hok hs k
  case putfield x1 => exact k_putfield F hok hs k
  case getstatic x1 => exact k_getstatic F hok hs k
  case new x1 => exact k_new F hok hs hn hz hc1 hc2 k
  case newarray x1 => exact k_newarray F hok hs hn hz hc1 hc2 k
  case anewarray x1 => exact k_anewarray F hok hs hn hz hc1 hc2 k
  case arraylength  => exact k_arraylength F hok hs k
  case iaload  => exact k_iaload F hok hs k
  case baload  => exact k_baload F hok hs k
  case aaload  => exact k_aaload F hok hs k
  case iastore  => exact k_iastore F hok hs k
  case bastore  => exact k_bastore F hok hs k
  case aastore  => exact k_aastore F hok hs k
  case invokevirtual x1 => exact k_invokevirtual F hok hs hn hz hc1 hc2 hM k
  case invokestatic x1 => exact k_invokestatic F hok hs hn hz hc1 hc2 hM k
  case invokespecial x1 => exact k_invokespecial F hok hs hn hz hc1 hc2 hM k
  case ireturn =>
    rw [m_s_ireturn] at hs
    (repeat' split at hs) <;> cases hs
  case areturn =>
    rw [m_s_areturn] at hs
    (repeat' split at hs) <;> cases hs
  case return_ =>
    rw [m_s_return_] at hs
    (repeat' split at hs) <;> cases hs
  all_goals
    have h2 : (none : Option (m_C ⊕ m_R)) = some (.inl C') := hs
    cases h2
theorem m_exec_sim (F : m_Fix E D ty X i d n0 p R s m args meth c) (hM : m_Met l E D ty X call d) (hcall : m_mono call) {v : Option Value} {hf : m_H} (hc1 : hf.length - n0 ≤ R.cells) (hc2 : m_sz hf - z0 ≤ R.slots)
    (hret : ∀ (en : m_E) (pc : Nat) (lv : m_L) (st : List Value) (h : m_H), m_ok i pc en = true → n0 ≤ h.length → z0 ≤ m_sz h → m_stp X call en pc lv st h = some (.inr (v, hf)) → m_At E D ty i n0 z0 p l e R s m args below meth c Q (pc, lv, st, h)) :
    ∀ (n pc : Nat) (lv : m_L) (st : List Value) (h : m_H), m_exec X call (m_code i) n pc lv st h = some (v, hf) → n0 ≤ h.length → z0 ≤ m_sz h → m_At E D ty i n0 z0 p l e R s m args below meth c Q (pc, lv, st, h) := by
  have hi : i < 182 := F.2.2.2.2.1
  intro n
  induction n with
  | zero => intro pc lv st h he; cases he
  | succ n ih =>
    intro pc lv st h he hn hz
    simp only [m_exec] at he
    split at he
    · rename_i en hen
      have hok := m_ok_at hi hen
      split at he
      · rename_i hs
        have h1 := m_stp_mono hcall hs
        have h2 := m_exec_mono hcall _ _ _ _ _ _ _ he
        refine m_step F hok hs hn hz ?_ ?_ hM (ih _ _ _ _ he (Nat.le_trans hn h1.1) (Nat.le_trans hz h1.2))
        · have := h2.1
          dsimp only
          omega
        · have := h2.2
          dsimp only
          omega
      · rename_i hs
        cases he
        exact hret _ _ _ _ _ hok hn hz hs
      · cases he
    · cases he
theorem m_ret (F : m_Fix E D ty X i d n0 p R s m args meth c) (hr : meth.sig.returnType = m_rt i) (hlocks : meth.locks = false) {en : m_E} (hok : m_ok i pc en = true) (hn : n0 ≤ h.length) {v : Option Value} {hf : m_H} (hs : m_stp X call en pc lv st h = some (.inr (v, hf))) :
    m_At E D ty i n0 z0 p l e R s m args below meth c (MQ below (m_Qc E D ty X v hf) args s (hf.length - n0) (m_sz hf - z0) (m_A E)) (pc, lv, st, h) := by
  obtain ⟨ins, len, a, b⟩ := en
  intro H locs ls hP hS hl
  dsimp only at hP hl ⊢
  refine m_W_sz (fun hH => ?_)
  obtain ⟨⟨hx, hb, hml, hown, hts⟩, hKn, hEx, hsz, hi, hini, hR⟩ := F
  obtain ⟨hdg, hI⟩ := m_ok_sp hok
  have hq : ∀ (w : Option Value) (t : State), t.heap = H → s.WarmedH t.vm → m_Qc E D ty X w h args s (.returned (w.map (m_rv E))) t := fun w t ht hW => ⟨rfl, m_B_at hsz hKn hEx hP hS hn hH ht hW, hS.F ht⟩
  cases ins
  case ireturn =>
    obtain ⟨e1, e2⟩ : len = 1 ∧ ((m_rt i = some .int ∧ b = 0) ∨ (m_rt i = some .boolean ∧ b = 1)) := of_decide_eq_true hI
    subst e1
    rw [m_s_ireturn] at hs
    split at hs
    · rename_i x
      split at hs
      · rename_i h1
        cases hs
        rcases e2 with ⟨e2, e3⟩ | ⟨e2, e3⟩
        · exact W.iret hx hb (hr.trans e2) (hq (some (.int x))) hS.2.2 hdg
        · refine W.zret hx hb (hr.trans e2) ?_ (hq (some (.int x))) hS.2.2 hdg
          subst e3
          rcases h1 with h1 | rfl | rfl
          · exact absurd h1 (by decide)
          · rfl
          · rfl
      · cases hs
    · cases hs
  case areturn =>
    have hI : (match m_rt i with
      | some (.object _) => decide (len = 1)
      | _ => false) = true := hI
    split at hI
    · rename_i C hC
      have e1 : len = 1 := of_decide_eq_true hI
      subst e1
      rw [m_s_areturn] at hs
      split at hs
      · rename_i x
        cases hs
        exact W.aret hx hb (hr.trans hC) (Or.inl ⟨_, rfl⟩) (Or.inr ⟨_, rfl⟩) (hq (some (.ref x))) hS.2.2 hdg
      · cases hs
        exact W.aret hx hb (hr.trans hC) (Or.inl ⟨_, rfl⟩) (Or.inl rfl) (hq (some .null)) hS.2.2 hdg
      · cases hs
    · cases hI
  case return_ =>
    obtain ⟨e1, e2⟩ : len = 1 ∧ m_rt i = none := of_decide_eq_true hI
    subst e1
    rw [m_s_return_] at hs
    split at hs
    · cases hs
      exact W.vret hx hb (hr.trans e2) (hq none) hS.2.2 hdg
    · cases hs
  all_goals
    exfalso
    first
    | (have h2 : (none : Option (m_C ⊕ m_R)) = some (.inr (v, hf)) := hs
       cases h2; done)
    | (unfold m_stp at hs
       dsimp only at hs
       (repeat' split at hs) <;> first | contradiction | (cases hs; done))
theorem m_lg_len (E : m_AE) (as : List Value) : (lg_sl (as.map (m_rv E))).length = (lg_sl as).length := by
  induction as with
  | nil => rfl
  | cons v r ih =>
    simp only [lg_sl, List.map_cons, List.flatMap_cons, List.length_append, m_rv_cat] at ih ⊢
    rw [ih]
    split <;> rfl
theorem m_lv_args (E : m_AE) (as : List Value) : ∀ k, lv_args k (as.map (m_rv E)) = (lv_args k as).map (m_rq E) := by
  induction as with
  | nil => intro k; rfl
  | cons v r ih =>
    intro k
    simp only [List.map_cons, lv_args, m_rv_cat, ih]
    rfl
theorem m_plain_all : (List.range 182).all (fun j => plainName (m_y j).cls && decide ((m_y j).cls = m_cn (m_oc j))) = true := by decide +kernel
theorem m_plain {j : Nat} (h : j < 182) : plainName (m_y j).cls = true ∧ (m_y j).cls = m_cn (m_oc j) := by
  have h1 := List.all_eq_true.mp m_plain_all j (List.mem_range.mpr h)
  simp only [Bool.and_eq_true, decide_eq_true_eq] at h1
  exact h1
set_option maxHeartbeats 4000000 in
theorem m_met_all : ∀ d, m_Met l E D ty X (m_run X d) d := by
  intro d
  induction d with
  | zero => intro j as h v h' hj he; cases he
  | succ d ih =>
    intro j as h v h' hj he
    have hle := m_run_mono _ _ _ _ _ _ he
    refine ⟨hle, ?_⟩
    simp only [m_run] at he
    split at he
    · rename_i hlg
      refine Met.ofW (cc := m_b j) (maxL := m_nl j) (ret := m_rt j) (m_plain hj.1).1 rfl ?_
      intro p e s m args below meth c s₁ B hml hv
      obtain ⟨rfl, hB1, hB2, hB3, hB4⟩ := hv
      have hts0 := atoms_spec (ws := m_wsM j) B.pre
      have hown : s.vm.findClass (m_cn (m_oc j)) = some m.cls := by
        rw [← (m_plain hj.1).2]
        exact findClass_of_methodNamed B.named
      have F : m_Fix E D ty X j d h.length p ({ frames := d + 1, cells := h'.length - h.length, slots := m_sz h' - m_sz h, locals := 100 * (d + 1) } : Room) s m ((as.map (m_rv E)).toArray) meth c :=
        ⟨⟨B.exec, B.bytes, hml, hown, fun w hw => hts0 w (List.mem_cons_of_mem _ hw)⟩, hB3, hB4, hB1, hj.1, fun hi => (name_of_methodNamed B.named B.method).1.trans hi, Nat.le_refl _, Nat.le_refl _⟩
      have hl := lv_entry (as.map (m_rv E)) (n := m_nl j) (by rw [m_lg_len]; exact hlg)
      rw [lg_entry_eq]
      generalize (lg_sl (as.map (m_rv E)) ++ List.replicate (m_nl j - (lg_sl (as.map (m_rv E))).length) Slot.unset).toArray = ls at hl ⊢
      rw [m_lv_args] at hl
      have K := m_exec_sim (z0 := m_sz h) (l := l) (e := e) (below := below) (Q := MQ below (m_Qc E D ty X v h') ((as.map (m_rv E)).toArray) s (h'.length - h.length) (m_sz h' - m_sz h) (m_A E)) F ih (m_run_mono d) (v := v) (hf := h') (Nat.le_refl _) (Nat.le_refl _) (fun en pc lv st h2 hok hn hz hs => m_ret F B.returns B.notSynchronized hok hn hs) _ _ _ _ _ he (Nat.le_refl _) (Nat.le_refl _) s.heap [] ls hB2 va_S.rf hl
      dsimp only at K
      rw [Nat.sub_self, Nat.sub_self] at K
      exact K
    · cases he
end RUN
end
section
/-! THE LAW: what the small machine makes of the law's code, from an empty heap, is what the machine does -/
/-! THE CLAIM OUT OF ONE WALK OF THE LAW'S BODY. Your part is whole_start (and what it stands on); all else here is the same for every law, but numbers. -/
def R_law : String := "WayBoxesLaw"
def lw_P (b : Addr) (xs : List Int32) (args : Array Value) (s : State) : Prop := args = #[.ref b] ∧ s.IntsAt b xs ∧ xs.length ≤ 6 ∧ (Jvm.Cond.and given_1 narrow_1).before args s = true
def lw_Q (_ : Array Value) (s : State) (o : Outcome) (t : State) : Prop := o = .returned (some (.int 1)) ∧ Framed s o t [] 600000 7302250
def lw_Z (below : List Frame) (a : Array Value) (s : State) : State → Prop := fun t => ∃ o, t.status = .running ∧ Ended t below o ∧ lw_Q a s o t
/-- the law's own end, with 1 on the stack, nothing written that was there before, its room as the claim has it -/
theorem lw_ret {p : Program} {l : Launch} {e : Env} {s : State} {m : MethodId} {below : List Frame} {meth : Method} {c : Code} {b : Nat} (hx : p.tables.exec = Jvm.exec) (hb : c.code = code) (hr : meth.sig.returnType = ret) (hlocks : meth.locks = false) {pc : Nat} {H : Heap} {ls : Array Slot} (hdg : decode code pc = .ok (.ireturn, 1)) : W p l e room_1 s m #[Value.ref b] below meth c H [] 600000 7302250 (lw_Z below #[Value.ref b] s) (F0 m pc ls [.int 1]) := by
  intro T hT X
  obtain ⟨fs, hret, hrun, hended, hW, hframe⟩ := X.leave (v := some (.int 1)) (hlocks := hlocks) (fun h => by rw [hr] at h; cases h)
  have hmeth' : T.vm.method? m = some meth := X.method'
  refine ⟨T.setFrames fs, ?_, .returned (some (.int 1)), hrun, hended, rfl, ⟨_, rfl⟩, hW, hframe⟩
  jvm_step X.here [X.here.top, hx, hb, hdg, hmeth', hr, ret, narrow_b1]
  (try refine ⟨rfl, ?_⟩); (try refine ⟨rfl, ?_⟩)
  first | (intro acts; rw [hret _ acts rfl rfl rfl]) | rw [hret _ _ rfl rfl rfl]
  exact Steps.refl _
/-- what holds at the law's entry: the machine, the code, the tables' words (any of lw_tbl by 'hts w (by decide +kernel)'), the script of L ints xs at the cell b, what the Statement gives of the start (any of its parts by flat_of_before) -/
def lw_At (p : Program) (s : State) (m : MethodId) (meth : Method) (c : Code) (b L : Nat) (xs : Nat → Int32) : Prop :=
  p.tables.exec = Jvm.exec ∧ c.code = code ∧ meth.sig.returnType = ret ∧ c.maxLocals = 4 ∧ s.vm.findClass R_law = some m.cls ∧ (∀ w ∈ lw_tbl, w.before #[Value.ref b] s = true) ∧ va_X b L xs s s.heap ∧ b < s.heap.size ∧ meth.locks = false ∧ (Jvm.Cond.and given_1 narrow_1).before #[Value.ref b] s = true
theorem m_cni_ok : (List.range 11).all (fun k => m_hi (m_cni.getD k 0) (.instantiable (m_cl k).1 (m_cl k).2.2)) = true := by decide +kernel
def m_bodies : List Int32 := [1, 2, 3, 0, 11, 0, 21, 0, 0, 0, 0, 31, 0, 0, 41, 0, 51, 0, 61, 0, 0]
def m_above : List Int32 := [-1, 0, 0, 0, 1, 3, 0]
def m_X (xs : List Int32) : Nat → List Int32 := fun j => match j with
  | 0 => xs
  | 1 => m_bodies
  | 2 => m_above
  | _ => []
/-- the law in the small machine answers true, within the room -/
def m_Ok (xs : List Int32) : Prop := ∃ hf : m_H, m_exec (m_X xs) (m_run (m_X xs) 60) (m_code 181) 1000000 0 [(0, .ref 1000000)] [] [] = some (some (.int 1), hf) ∧ hf.length ≤ 600000 ∧ m_sz hf ≤ 7302250
theorem m_arr_of {args : Array Value} {s : State} {t : FieldType} (h : (Cond.arrayClass t).before args s = true) (ht : t = .int ∨ t = .boolean) : ∃ cA : ClassId, ArrOfT s cA t ∧ va_RA s cA t := by
  obtain ⟨cA, kA, comp, h1, h2, h3⟩ := Cond.arrayClass_spec h
  refine ⟨cA, fun n z => ⟨fun k h => (by cases h), kA, h2, comp, h3⟩, ?_⟩
  rcases ht with rfl | rfl <;> exact h1
theorem m_arr_ob {args : Array Value} {s : State} {C : String} (h : (Cond.arrayOver (.object C)).before args s = true) : ∃ cA : ClassId, ArrOfT s cA (.object C) ∧ va_RA s cA (.object C) := by
  obtain ⟨comp, cA, kA, h1, h2, h3, h4, h5⟩ := Cond.arrayOver_spec h
  exact ⟨cA, fun n z => ⟨fun k h => (by cases h), kA, h3, comp, h4⟩, kA, comp, h3, h4, h1, h5⟩
set_option maxRecDepth 100000 in
theorem m_st1 : (List.range 21).all (fun j => decide (Cond.eq (.elem (.static "WayBoxes" "BODIES" "[I") (.int (Int32.ofNat j))) (.int (m_bodies.getD j 0)) ∈ flatC (Jvm.Cond.and given_1 narrow_1))) = true := by decide +kernel
set_option maxRecDepth 100000 in
theorem m_st2 : (List.range 7).all (fun j => decide (Cond.eq (.elem (.static "WayBoxes" "ABOVE" "[I") (.int (Int32.ofNat j))) (.int (m_above.getD j 0)) ∈ flatC (Jvm.Cond.and given_1 narrow_1))) = true := by decide +kernel
set_option maxRecDepth 100000 in
theorem m_st3 : Cond.arrayOf (.static "WayBoxes" "BODIES" "[I") .int ∈ flatC (Jvm.Cond.and given_1 narrow_1) ∧ Cond.arrayOf (.static "WayBoxes" "ABOVE" "[I") .int ∈ flatC (Jvm.Cond.and given_1 narrow_1) ∧ Cond.eq (.length (.static "WayBoxes" "BODIES" "[I")) (.int 21) ∈ flatC (Jvm.Cond.and given_1 narrow_1) ∧ Cond.eq (.length (.static "WayBoxes" "ABOVE" "[I")) (.int 7) ∈ flatC (Jvm.Cond.and given_1 narrow_1) := by decide +kernel
set_option maxRecDepth 100000 in
theorem m_st4 : Cond.laysStatic "WayBoxes" "BODIES" "[I" ∈ lw_tbl ∧ Cond.laysStatic "WayBoxes" "ABOVE" "[I" ∈ lw_tbl ∧ Cond.initialized "WayBoxes" ∈ lw_tbl := by decide +kernel
/-- a constant row -/
theorem m_static {args : Array Value} {s : State} {A : Nat → Prop} {nm : String} {N : Nat} {vs : List Int32} (hN : N < 2 ^ 31) (hl : vs.length = N) (hg : ∀ w ∈ flatC (Jvm.Cond.and given_1 narrow_1), w.before args s = true)
    (h1 : Cond.arrayOf (.static "WayBoxes" nm "[I") .int ∈ flatC (Jvm.Cond.and given_1 narrow_1)) (h2 : Cond.eq (.length (.static "WayBoxes" nm "[I")) (.int (Int32.ofNat N)) ∈ flatC (Jvm.Cond.and given_1 narrow_1))
    (h3 : (List.range N).all (fun j => decide (Cond.eq (.elem (.static "WayBoxes" nm "[I") (.int (Int32.ofNat j))) (.int (vs.getD j 0)) ∈ flatC (Jvm.Cond.and given_1 narrow_1))) = true)
    (h4 : (Cond.laysStatic "WayBoxes" nm "[I").before args s = true) (h5 : (Cond.initialized "WayBoxes").before args s = true) (hA : ∀ a : Nat, a < s.heap.size → ¬ A a) :
    ∃ t : Nat, va_T .int t vs.length (fun k => .int (vs.getD k 0)) A s s.heap ∧ va_Z "WayBoxes" nm "[I" (.ref t) A s s.heap := by
  subst hl
  obtain ⟨t, ht, hT⟩ := va_Tof (f := fun k => .int (vs.getD k 0)) (A := A) hN (hg _ h1) (va_eqt (hg _ h2)) (fun j hj => va_eqt (hg _ (of_decide_eq_true (List.all_eq_true.mp h3 j (List.mem_range.mpr hj))))) hA
  exact ⟨t, hT, va_Zof h4 h5 ht hA⟩
theorem m_inr {X : Nat → List Int32} {call : Nat → List Value → m_H → Option m_R} {ins : Instr} {len : Nat} {a : Int} {b pc : Nat} {lv : m_L} {st : List Value} {h : m_H} {r : m_R} (hs : m_stp X call (ins, len, a, b) pc lv st h = some (.inr r)) : ins = .ireturn ∨ ins = .areturn ∨ ins = .return_ := by
  cases ins
  case ireturn => exact Or.inl rfl
  case areturn => exact Or.inr (Or.inl rfl)
  case return_ => exact Or.inr (Or.inr rfl)
  all_goals
    exfalso
    first
    | (have h2 : (none : Option (m_C ⊕ m_R)) = some (.inr r) := hs
       cases h2; done)
    | (unfold m_stp at hs
       dsimp only at hs
       (repeat' split at hs) <;> first | contradiction | (cases hs; done))
set_option maxHeartbeats 4000000 in
/-- the law's walk is the small machine's run -/
theorem m_law {p : Program} {e : Env} {s : State} {m : MethodId} {below : List Frame} {meth : Method} {c : Code} (l : Launch) {b L : Nat} {xs : Nat → Int32} (C0 : lw_At p s m meth c b L xs) (hL : L < 2 ^ 31) (hok : m_Ok ((List.range L).map xs)) :
    W p l e room_1 s m #[Value.ref b] below meth c s.heap [] 0 0 (lw_Z below #[Value.ref b] s) (entryFrame m ([Value.ref b] : List Value).toArray 4) := by
  obtain ⟨hx, hb, hr, hml, hown, hts, hX, hbl, hlocks, hgv⟩ := id C0
  obtain ⟨hf, hrun, hf1, hf2⟩ := hok
  have hg : ∀ w ∈ flatC (Jvm.Cond.and given_1 narrow_1), w.before #[Value.ref b] s = true := flat_of_before _ hgv
  have hgood : ∀ w ∈ lw_good, w.before #[Value.ref b] s = true := fun w hw => hts w (lw_good_in hw)
  have hA : ∀ a : Nat, a < s.heap.size → ¬ (fun q : Nat => s.heap.size ≤ q) a := fun a h1 h2 => by have h2 : s.heap.size ≤ a := h2; omega
  obtain ⟨t1, hT1, hZ1⟩ := m_static (A := fun q : Nat => s.heap.size ≤ q) (nm := "BODIES") (N := 21) (vs := m_bodies) (by decide) rfl hg m_st3.1 m_st3.2.2.1 m_st1 (hts _ m_st4.1) (hts _ m_st4.2.2) hA
  obtain ⟨t2, hT2, hZ2⟩ := m_static (A := fun q : Nat => s.heap.size ≤ q) (nm := "ABOVE") (N := 7) (vs := m_above) (by decide) rfl hg m_st3.2.1 m_st3.2.2.2 m_st2 (hts _ m_st4.2.1) (hts _ m_st4.2.2) hA
  have hcl : ∀ k : Nat, ∃ (cC : ClassId) (iS : Nat → Nat), k < 11 → u_Kn s (m_cl k).1 (m_cl k).2.1 (m_cl k).2.2 cC iS := by
    intro k
    by_cases hk : k < 11
    · have hin : Cond.instantiable (m_cl k).1 (m_cl k).2.2 ∈ lw_good := by
        have : (List.range 11).all (fun k => m_hi (m_cni.getD k 0) (.instantiable (m_cl k).1 (m_cl k).2.2)) = true := m_cni_ok
        exact m_hi_in (List.all_eq_true.mp this k (List.mem_range.mpr hk))
      obtain ⟨cC, iS, h1⟩ := u_known hgood (m_in_ok hk) (hgood _ hin)
      exact ⟨cC, iS, fun _ => h1⟩
    · exact ⟨0, fun _ => 0, fun h => absurd h hk⟩
  have hD : ∃ D : va_G, ∀ (k : Nat) (q : vw_C), vwCl[k]? = some q → u_Kn s q.1 q.2.1 q.2.2 (D.1 k) (D.2 k) := by
    refine ⟨(fun k => (hcl k).choose, fun k => (hcl k).choose_spec.choose), fun k q hq => ?_⟩
    have hk : k < 11 := (List.getElem?_eq_some_iff.mp hq).1
    have h1 := (hcl k).choose_spec.choose_spec hk
    rw [m_cl_at hk] at hq
    cases hq
    exact h1
  obtain ⟨D, hD⟩ := hD
  have hao : ∀ C ∈ m_ao, (Cond.arrayOver (.object C)).before #[Value.ref b] s = true := fun C hC => hts _ (of_decide_eq_true (List.all_eq_true.mp m_ao_ok C hC))
  obtain ⟨a0, ha0⟩ := m_arr_of (hgood _ (m_has_in m_arr_ok.1)) (Or.inl rfl)
  obtain ⟨a1, ha1⟩ := m_arr_of (hgood _ (m_has_in m_arr_ok.2)) (Or.inr rfl)
  obtain ⟨a2, ha2⟩ := m_arr_ob (hao "WayBoxes$Text" (by decide))
  obtain ⟨a3, ha3⟩ := m_arr_ob (hao "WayBoxes$Box" (by decide))
  obtain ⟨a4, ha4⟩ := m_arr_ob (hao "WayBoxes$Packet" (by decide))
  obtain ⟨a5, ha5⟩ := m_arr_ob (hao "WayBoxes$Memory" (by decide))
  obtain ⟨a6, ha6⟩ := m_arr_ob (hao "WayBoxes$Watch" (by decide))
  have hKn : m_Kn D (fun k => [a0, a1, a2, a3, a4, a5, a6].getD k 0) s := by
    refine ⟨⟨hD, ?_⟩, fun w hw => va_Nw.of (m_nw_tab hw) (hts _ (of_decide_eq_true (List.all_eq_true.mp m_nw_ok w hw))), fun C hC => va_AO.of (hao C hC)⟩
    intro k q hq
    have hk : k < 7 := (List.getElem?_eq_some_iff.mp hq).1
    have : k = 0 ∨ k = 1 ∨ k = 2 ∨ k = 3 ∨ k = 4 ∨ k = 5 ∨ k = 6 := by omega
    rcases this with rfl | rfl | rfl | rfl | rfl | rfl | rfl <;> cases hq
    · exact ha0
    · exact ha1
    · exact ha2
    · exact ha3
    · exact ha4
    · exact ha5
    · exact ha6
  have hEx : m_Ex (s.heap.size, fun j => if j = 0 then b else if j = 1 then t1 else t2) (m_X ((List.range L).map xs)) s s.heap := by
    refine ⟨fun j hj => ?_, fun j hj => ?_⟩
    · have : j = 0 ∨ j = 1 ∨ j = 2 := by omega
      rcases this with rfl | rfl | rfl
      · obtain ⟨scr, g1, g2, g3, g4, g5⟩ := hX
        refine ⟨scr, g1, g2, g3, ?_, ?_, fun k hk => ?_, hA b hbl⟩
        · show ((List.range L).map xs).length ≤ _
          simp [g4]
        · show _ = Int32.ofNat ((List.range L).map xs).length
          simp [g4]
        · have hk : k < ((List.range L).map xs).length := hk
          have hk2 : k < L := by simpa using hk
          rw [g5 k hk2]
          show _ = some (Value.int (((List.range L).map xs).getD k 0))
          simp [List.getD_eq_getElem?_getD, hk2]
      · exact hT1
      · exact hT2
    · rcases hj with rfl | rfl
      · exact hZ1
      · exact hZ2
  have F : m_Fix (s.heap.size, fun j => if j = 0 then b else if j = 1 then t1 else t2) D (fun k => [a0, a1, a2, a3, a4, a5, a6].getD k 0) (m_X ((List.range L).map xs)) 181 60 0 p room_1 s m #[Value.ref b] meth c :=
    ⟨⟨hx, hb, hml, hown, hgood⟩, hKn, hEx, rfl, by decide, fun h => absurd h (by decide +kernel), by decide, by decide⟩
  have hl := lv_entry ([.ref b]) (n := 4) (Nat.le_of_ble_eq_true rfl)
  rw [lg_entry_eq]
  generalize (lg_sl ([.ref b]) ++ List.replicate (4 - (lg_sl ([.ref b])).length) Slot.unset).toArray = ls at hl ⊢
  have hl : lv_has ls (m_nl 181) (([(0, .ref 1000000)] : m_L).map (m_rq (s.heap.size, fun j => if j = 0 then b else if j = 1 then t1 else t2))) := hl
  refine m_exec_sim (z0 := 0) (l := l) (e := e) (below := below) (Q := lw_Z below #[Value.ref b] s) F (m_met_all 60) (m_run_mono 60) (v := some (.int 1)) (hf := hf) hf1 hf2 ?_ _ _ _ _ _ hrun (Nat.le_refl _) (Nat.le_refl _) s.heap [] ls (fun k q h => by simp [m_ws] at h) va_S.rf hl
  intro en pc lv st h hen hn hz hs
  obtain ⟨ins, len, a, bb⟩ := en
  intro H locs ls2 hP hS hl2
  dsimp only at hP hl2 ⊢
  obtain ⟨hdg, hI⟩ := m_ok_sp hen
  rcases m_inr hs with rfl | rfl | rfl
  · obtain ⟨e1, e2⟩ : len = 1 ∧ ((m_rt 181 = some .int ∧ bb = 0) ∨ (m_rt 181 = some .boolean ∧ bb = 1)) := of_decide_eq_true hI
    subst e1
    rw [m_s_ireturn] at hs
    split at hs
    · rename_i x
      split at hs
      · cases hs
        refine va_forget (fun q hq => hS.2.2 q hq) ?_
        refine W.widen (k := 600000) (n := 7302250) (by omega) (by omega) ?_
        exact lw_ret hx hb hr hlocks hdg
      · cases hs
    · cases hs
  · exfalso
    have hI : (match m_rt 181 with
      | some (.object _) => decide (len = 1)
      | _ => false) = true := hI
    cases hI
  · exfalso
    obtain ⟨e1, e2⟩ : len = 1 ∧ m_rt 181 = none := of_decide_eq_true hI
    cases e2
end
section
/-! walking the small machine, row by row; a and b bound how large the heap is -/
def x_E (X : Nat → List Int32) (d j u w n pc : Nat) (lv : m_L) (st : List Value) (h : m_H) (K : Nat → Nat → m_R → Prop) : Prop :=
  h.length ≤ u → m_sz h ≤ w → ∃ (r : m_R) (u' w' : Nat), m_exec X (m_run X d) (m_code j) n pc lv st h = some r ∧ r.2.length ≤ u' ∧ m_sz r.2 ≤ w' ∧ K u' w' r
def x_R (X : Nat → List Int32) (d j u w : Nat) (as : List Value) (h : m_H) (K : Nat → Nat → m_R → Prop) : Prop :=
  h.length ≤ u → m_sz h ≤ w → ∃ (r : m_R) (u' w' : Nat), m_run X d j as h = some r ∧ r.2.length ≤ u' ∧ m_sz r.2 ≤ w' ∧ K u' w' r
def x_pure : Instr → Bool
  | .new _ => false
  | .newarray _ => false
  | .anewarray _ => false
  | .invokevirtual _ => false
  | .invokespecial _ => false
  | _ => true
def x_noStatic (en : m_E) : Bool := match en.1 with
  | .invokestatic _ => en.2.2.1.toNat == 9999
  | .invokespecial _ => en.2.2.1.toNat == 9998
  | i => x_pure i
section WALK
variable {X : Nat → List Int32} {d j u w n pc : Nat} {lv : m_L} {st : List Value} {h : m_H} {K : Nat → Nat → m_R → Prop} {en : m_E}
theorem x_same_set {h : m_H} {k t t' : Nat} {us vs : List Value} (ho : m_ob h k = some (t, us)) (hl : vs.length = us.length) : (h.set k (t', vs)).length = h.length ∧ m_sz (h.set k (t', vs)) = m_sz h :=
  ⟨List.length_set, m_sz_set (m_ob_nth ho).2 hl⟩
theorem x_same_se {h h' : m_H} {t x : Nat} {y : Int32} {v : Value} (ha : m_se h t x y v = some h') : h'.length = h.length ∧ m_sz h' = m_sz h := by
  obtain ⟨j, vs, -, h1, g1, -, rfl⟩ := m_se_sp ha
  refine x_same_set (t := t) (us := vs) ?_ (by simp)
  unfold m_ob
  rw [if_pos h1]
  exact g1
theorem x_same_acp {h h' : m_H} {x q : Nat} {sp dp n : Int32} (ha : m_acp h x sp q dp n = some h') : h'.length = h.length ∧ m_sz h' = m_sz h := by
  obtain ⟨i, j, w, us, vs, -, -, -, -, -, f6, f7, f8, f9, rfl⟩ := m_acp_sp ha
  refine x_same_set (t := 20) (us := vs) ?_ (m_cpy_len f8 f9)
  unfold m_ob
  rw [if_pos f6]
  exact f7
set_option maxHeartbeats 4000000 in
theorem x_same {call : Nat → List Value → m_H → Option m_R} {C : m_C} (ha : x_noStatic en = true) (hs : m_stp X call en pc lv st h = some (.inl C)) : C.2.2.2.length = h.length ∧ m_sz C.2.2.2 = m_sz h := by
  obtain ⟨ins, len, a, b⟩ := en
  unfold m_stp at hs
  dsimp only at hs
  split at hs
  all_goals (repeat' split at hs)
  all_goals first
    | (cases hs; done)
    | (cases hs; exact ⟨rfl, rfl⟩)
    | (cases hs; exact x_same_se (by assumption))
    | (cases hs; exact x_same_acp (by assumption))
    | (cases hs; exact x_same_set (by assumption) (by simp))
    | (exfalso; simp_all [x_noStatic, x_pure]; done)
theorem x_in {pc' : Nat} {lv' : m_L} {st' : List Value} {h' : m_H} (hc : m_nth (m_code j) pc = some (some en)) (ha : x_noStatic en = true) (hs : m_stp X (m_run X d) en pc lv st h = m_nx pc' lv' st' h') (k : x_E X d j u w n pc' lv' st' h' K) : x_E X d j u w (n + 1) pc lv st h K := by
  intro h1 h2
  obtain ⟨g1, g2⟩ := x_same ha hs
  dsimp only at g1 g2
  obtain ⟨r, u', w', k1, k2⟩ := k (by rw [g1]; exact h1) (by rw [g2]; exact h2)
  refine ⟨r, u', w', ?_, k2⟩
  simp only [m_exec, hc, hs]
  exact k1
theorem x_br {c : Prop} {i : Decidable c} {p1 p2 : Nat} {st' : List Value} (hc : m_nth (m_code j) pc = some (some en)) (hs : m_stp X (m_run X d) en pc lv st h = @ite _ c i (m_nx p1 lv st' h) (m_nx p2 lv st' h))
    (k1 : c → x_E X d j u w n p1 lv st' h K) (k2 : ¬ c → x_E X d j u w n p2 lv st' h K) : x_E X d j u w (n + 1) pc lv st h K := by
  intro h1 h2
  by_cases hcc : c
  · obtain ⟨r, u', w', k3, k4⟩ := k1 hcc h1 h2
    refine ⟨r, u', w', ?_, k4⟩
    rw [if_pos hcc] at hs
    simp only [m_exec, hc, hs]
    exact k3
  · obtain ⟨r, u', w', k3, k4⟩ := k2 hcc h1 h2
    refine ⟨r, u', w', ?_, k4⟩
    rw [if_neg hcc] at hs
    simp only [m_exec, hc, hs]
    exact k3
theorem x_bT {c : Prop} {i : Decidable c} {p1 p2 : Nat} {st' : List Value} (hc : m_nth (m_code j) pc = some (some en)) (hs : m_stp X (m_run X d) en pc lv st h = @ite _ c i (m_nx p1 lv st' h) (m_nx p2 lv st' h))
    (hp : c) (k1 : x_E X d j u w n p1 lv st' h K) : x_E X d j u w (n + 1) pc lv st h K := x_br hc hs (fun _ => k1) (fun q => absurd hp q)
theorem x_bF {c : Prop} {i : Decidable c} {p1 p2 : Nat} {st' : List Value} (hc : m_nth (m_code j) pc = some (some en)) (hs : m_stp X (m_run X d) en pc lv st h = @ite _ c i (m_nx p1 lv st' h) (m_nx p2 lv st' h))
    (hp : ¬ c) (k2 : x_E X d j u w n p2 lv st' h K) : x_E X d j u w (n + 1) pc lv st h K := x_br hc hs (fun q => absurd q hp) (fun _ => k2)
theorem x_top {v v' : Value} {r : List Value} (e : v = v') (k : x_E X d j u w n pc lv (v' :: r) h K) : x_E X d j u w n pc lv (v :: r) h K := e ▸ k
theorem x_gen {v : Int32} {r : List Value} (k : ∀ y : Int32, x_E X d j u w n pc lv (.int y :: r) h K) : x_E X d j u w n pc lv (.int v :: r) h K := k v
theorem x_iinc {q : Nat} {x z : Int32} {k : Int} {len b : Nat} {a : Int} (hc : m_nth (m_code j) pc = some (some (.iinc q k, len, a, b))) (hl : m_lg lv q = some (.int x)) (hz : x + Int32.ofInt k = z) (kk : x_E X d j u w n (pc + len) (m_st lv q (.int z)) st h K) : x_E X d j u w (n + 1) pc lv st h K := by
  subst hz
  refine x_in hc rfl ?_ kk
  rw [m_s_iinc, hl]
theorem x_al {t : Nat} {vs : List Value} {z : Nat} {pc' : Nat} {st' : List Value} (hc : m_nth (m_code j) pc = some (some en)) (hs : m_stp X (m_run X d) en pc lv st h = m_nx pc' lv st' (h ++ [(t, vs)])) (hz : vs.length = z) (k : x_E X d j (u + 1) (w + z) n pc' lv st' (h ++ [(t, vs)]) K) : x_E X d j u w (n + 1) pc lv st h K := by
  intro h1 h2
  obtain ⟨r, u', w', k1, k2⟩ := k (by simp; exact h1) (by rw [m_sz_add, hz]; omega)
  refine ⟨r, u', w', ?_, k2⟩
  simp only [m_exec, hc, hs]
  exact k1
theorem x_ret {v : Option Value} (hc : m_nth (m_code j) pc = some (some en)) (hs : m_stp X (m_run X d) en pc lv st h = some (.inr (v, h))) (k : K u w (v, h)) : x_E X d j u w (n + 1) pc lv st h K := by
  intro h1 h2
  refine ⟨(v, h), u, w, ?_, h1, h2, k⟩
  simp only [m_exec, hc, hs]
theorem x_enter {as : List Value} (hlg : (lg_sl as).length ≤ m_nl j) (k : x_E X d j u w 1000000 0 (lv_args 0 as) [] h K) : x_R X (d + 1) j u w as h K := by
  intro h1 h2
  obtain ⟨r, u', w', k1, k2⟩ := k h1 h2
  refine ⟨r, u', w', ?_, k2⟩
  simp only [m_run, if_pos hlg]
  exact k1
theorem x_back {j' pc' : Nat} {as rst : List Value} (hcall : ∀ v h', m_run X d j' as h = some (v, h') → m_exec X (m_run X d) (m_code j) (n + 1) pc lv st h = m_exec X (m_run X d) (m_code j) n pc' lv (v.toList ++ rst) h')
    (kk : x_R X d j' u w as h (fun u' w' r => x_E X d j u' w' n pc' lv (r.1.toList ++ rst) r.2 K)) : x_E X d j u w (n + 1) pc lv st h K := by
  intro h1 h2
  obtain ⟨⟨v, h'⟩, u', w', k1, k2, k3, k4⟩ := kk h1 h2
  obtain ⟨r, u'', w'', g1, g2⟩ := k4 k2 k3
  refine ⟨r, u'', w'', ?_, g2⟩
  rw [hcall v h' k1]
  exact g1
theorem x_cV {q len b : Nat} {a : Int} {k t : Nat} {vs rst : List Value} (hc : m_nth (m_code j) pc = some (some (.invokevirtual q, len, a, b))) (e1 : st.drop b = .ref k :: rst) (ho : m_ob h k = some (t, vs)) (e2 : (Value.ref k :: (st.take b).reverse) = (Value.ref k :: (st.take b).reverse)) (ht : t = m_oc a.toNat ∧ rst.length ≤ 4 ∧ b ≤ st.length)
    (kk : x_R X d a.toNat u w (.ref k :: (st.take b).reverse) h (fun u' w' r => x_E X d j u' w' n (pc + len) lv (r.1.toList ++ rst) r.2 K)) : x_E X d j u w (n + 1) pc lv st h K := by
  refine x_back (fun v h' e => ?_) kk
  simp only [m_exec, hc, m_s_invokevirtual, e1, ho, if_pos ht, e]
theorem x_cS {q len b : Nat} {a : Int} {rst : List Value} (hc : m_nth (m_code j) pc = some (some (.invokestatic q, len, a, b))) (h9 : ¬ a.toNat = 9999) (e1 : st.drop b = rst) (e2 : (st.take b).reverse = (st.take b).reverse) (ht : (st.drop b).length ≤ 4 ∧ b ≤ st.length)
    (kk : x_R X d a.toNat u w (st.take b).reverse h (fun u' w' r => x_E X d j u' w' n (pc + len) lv (r.1.toList ++ rst) r.2 K)) : x_E X d j u w (n + 1) pc lv st h K := by
  subst e1
  refine x_back (fun v h' e => ?_) kk
  simp only [m_exec, hc, m_s_invokestatic, if_neg h9, if_pos ht, e]
theorem x_cI {q len b : Nat} {a : Int} {k : Nat} {rst : List Value} (hc : m_nth (m_code j) pc = some (some (.invokespecial q, len, a, b))) (h9 : ¬ a.toNat = 9998) (e1 : st.drop b = .ref k :: rst) (e2 : (st.take b).reverse = (st.take b).reverse) (ht : rst.length ≤ 4 ∧ b ≤ st.length ∧ k < 1000000)
    (kk : x_R X d a.toNat u w (.ref k :: (st.take b).reverse) h (fun u' w' r => x_E X d j u' w' n (pc + len) lv (r.1.toList ++ rst) r.2 K)) : x_E X d j u w (n + 1) pc lv st h K := by
  refine x_back (fun v h' e => ?_) kk
  simp only [m_exec, hc, m_s_invokespecial, if_neg h9, e1, if_pos ht, e]
theorem x_swD {q lo hi : Int} {offs : Array Int} {len b t : Nat} {a : Int} {x : Int32} {r : List Value} (hc : m_nth (m_code j) pc = some (some (.tableswitch q lo hi offs, len, a, b))) (hx : x.toInt < lo ∨ hi < x.toInt) (hg : m_go pc q = some t) (k : x_E X d j u w n t lv r h K) : x_E X d j u w (n + 1) pc lv (.int x :: r) h K := by
  refine x_in (en := (.tableswitch q lo hi offs, len, a, b)) hc rfl ?_ k
  rw [m_s_tableswitch]
  simp only [if_pos hx, hg]
theorem x_new {q len b L z : Nat} {a : Int} (hc : m_nth (m_code j) pc = some (some (.new q, len, a, b))) (hL : h.length = L) (hb : L < 1000000) (hz : (m_dfl b).length = z) (k : x_E X d j (u + 1) (w + z) n (pc + len) lv (.ref L :: st) (h ++ [(b, m_dfl b)]) K) : x_E X d j u w (n + 1) pc lv st h K := by
  subst hL
  refine x_al hc ?_ hz k
  rw [m_s_new]
  unfold m_add
  rw [if_pos hb]
theorem x_hs0 {g : m_H} {k : Nat} {c1 c2 : Nat × List Value} (kk : x_E X d j u w n pc lv st (g.set k c2) K) : x_E X d j u w n pc lv st ((g.set k c1).set k c2) K := by
  rw [List.set_set]
  exact kk
theorem x_hs1 {g : m_H} {k k1 : Nat} {c1 c2 e1 : Nat × List Value} (h1 : k ≠ k1) (kk : x_E X d j u w n pc lv st ((g.set k c2).set k1 e1) K) : x_E X d j u w n pc lv st (((g.set k c1).set k1 e1).set k c2) K := by
  rw [List.set_comm _ _ (Ne.symm h1), List.set_set]
  exact kk
theorem x_hs2 {g : m_H} {k k1 k2 : Nat} {c1 c2 e1 e2 : Nat × List Value} (h1 : k ≠ k1) (h2 : k ≠ k2) (kk : x_E X d j u w n pc lv st (((g.set k c2).set k1 e1).set k2 e2) K) : x_E X d j u w n pc lv st ((((g.set k c1).set k1 e1).set k2 e2).set k c2) K := by
  rw [List.set_comm _ _ (Ne.symm h2), List.set_comm _ _ (Ne.symm h1), List.set_set]
  exact kk
theorem x_hs3 {g : m_H} {k k1 k2 k3 : Nat} {c1 c2 e1 e2 e3 : Nat × List Value} (h1 : k ≠ k1) (h2 : k ≠ k2) (h3 : k ≠ k3) (kk : x_E X d j u w n pc lv st ((((g.set k c2).set k1 e1).set k2 e2).set k3 e3) K) : x_E X d j u w n pc lv st (((((g.set k c1).set k1 e1).set k2 e2).set k3 e3).set k c2) K := by
  rw [List.set_comm _ _ (Ne.symm h3), List.set_comm _ _ (Ne.symm h2), List.set_comm _ _ (Ne.symm h1), List.set_set]
  exact kk
/-- a call that was computed -/
theorem x_done {as : List Value} {r : m_R} {u' w' : Nat} (hr : m_run X d j as h = some r) (hb : h.length ≤ u → m_sz h ≤ w → r.2.length ≤ u' ∧ m_sz r.2 ≤ w') (k : K u' w' r) : x_R X d j u w as h K := fun h1 h2 => ⟨r, u', w', hr, (hb h1 h2).1, (hb h1 h2).2, k⟩
end WALK
theorem z_1 {x c : Int32} (k : Int) (hk : c.toInt = k) : x < c ↔ x.toInt < k := by rw [Int32.lt_iff_toInt_lt, hk]
theorem z_2 {x c : Int32} (k : Int) (hk : c.toInt = k) : c < x ↔ k < x.toInt := by rw [Int32.lt_iff_toInt_lt, hk]
theorem z_3 {x c : Int32} (k : Int) (hk : c.toInt = k) : x ≤ c ↔ x.toInt ≤ k := by rw [Int32.le_iff_toInt_le, hk]
theorem z_4 {x c : Int32} (k : Int) (hk : c.toInt = k) : c ≤ x ↔ k ≤ x.toInt := by rw [Int32.le_iff_toInt_le, hk]
theorem z_5 {x c : Int32} (k : Int) (hk : c.toInt = k) : x = c ↔ x.toInt = k := by rw [← hk, Int32.toInt_inj]
theorem z_6 {x c : Int32} (k : Int) (hk : c.toInt = k) : c = x ↔ x.toInt = k := by rw [← hk, ← Int32.toInt_inj, eq_comm]
theorem z_ush0 (x : Int32) : (x.toUInt32 >>> (((0 : Int32)).toUInt32 &&& Int32.toUInt32 31)).toInt32 = x := by
  apply Int32.toBitVec_inj.mp
  simp
end
section
/-! the two objects, made: computed once, where nothing outside is looked at; so it is wherever the machine is -/
def m_X0 : Nat → List Int32 := fun _ => [0]
theorem x_el0 {X : Nat → List Int32} {h : m_H} {t k : Nat} {i : Int32} {v : Value} (he : m_el m_X0 h t k i = some v) : m_el X h t k i = some v := by
  unfold m_el at he ⊢
  split at he
  · cases he
  · split at he
    · rename_i h1
      rw [if_pos h1]
      exact he
    · split at he
      · rename_i h2
        exact absurd h2.2.2 (by decide)
      · cases he
theorem x_ln0 {X : Nat → List Int32} {h : m_H} {k : Nat} {v : Int32} (he : m_ln m_X0 h k = some v) : m_ln X h k = some v := by
  unfold m_ln at he ⊢
  split at he
  · rename_i h1
    rw [if_pos h1]
    exact he
  · split at he
    · rename_i h2
      exact absurd h2.2 (by decide)
    · cases he
set_option maxRecDepth 100000 in
set_option maxHeartbeats 4000000 in
theorem x_stp0 {X : Nat → List Int32} {c0 call : Nat → List Value → m_H → Option m_R} (hcall : ∀ j as h r, c0 j as h = some r → call j as h = some r) {en : m_E} {pc : Nat} {lv : m_L} {st : List Value} {h : m_H} {r : m_C ⊕ m_R} (hs : m_stp m_X0 c0 en pc lv st h = some r) : m_stp X call en pc lv st h = some r := by
  obtain ⟨ins, len, a, b⟩ := en
  cases ins
  case iaload =>
    rw [m_s_iaload] at hs ⊢
    split at hs
    · split at hs
      · rename_i hv
        simp only [x_el0 hv]
        exact hs
      · cases hs
    · cases hs
  case baload =>
    rw [m_s_baload] at hs ⊢
    split at hs
    · split at hs
      · rename_i hv
        simp only [x_el0 hv]
        exact hs
      · cases hs
    · cases hs
  case arraylength =>
    rw [m_s_arraylength] at hs ⊢
    split at hs
    · split at hs
      · rename_i hv
        simp only [x_ln0 hv]
        exact hs
      · cases hs
    · cases hs
  case invokevirtual q =>
    rw [m_s_invokevirtual] at hs ⊢
    split at hs
    · rename_i x r h1
      split at hs
      · rename_i t vs h2
        split at hs
        · rename_i h3
          split at hs
          · rename_i hv
            simp only [h1, h2, if_pos h3, hcall _ _ _ _ hv]
            exact hs
          · cases hs
        · cases hs
      · cases hs
    · cases hs
  case invokestatic q =>
    rw [m_s_invokestatic] at hs ⊢
    split at hs
    · rename_i h9
      rw [if_pos h9]
      exact hs
    · rename_i h9
      rw [if_neg h9]
      split at hs
      · rename_i h3
        rw [if_pos h3]
        split at hs
        · rename_i hv
          simp only [hcall _ _ _ _ hv]
          exact hs
        · cases hs
      · cases hs
  case invokespecial q =>
    rw [m_s_invokespecial] at hs ⊢
    split at hs
    · rename_i h9
      rw [if_pos h9]
      exact hs
    · rename_i h9
      rw [if_neg h9]
      split at hs
      · rename_i x r h1
        split at hs
        · rename_i h3
          split at hs
          · rename_i hv
            simp only [h1, if_pos h3, hcall _ _ _ _ hv]
            exact hs
          · cases hs
        · cases hs
      · cases hs
  case iconst x1 =>
    rw [m_s_iconst] at hs ⊢
    exact hs
  case bipush x1 =>
    rw [m_s_bipush] at hs ⊢
    exact hs
  case sipush x1 =>
    rw [m_s_sipush] at hs ⊢
    exact hs
  case ldc x1 =>
    rw [m_s_ldc] at hs ⊢
    exact hs
  case ldc_w x1 =>
    rw [m_s_ldc_w] at hs ⊢
    exact hs
  case ldc2_w x1 =>
    rw [m_s_ldc2_w] at hs ⊢
    exact hs
  case aconst_null  =>
    rw [m_s_aconst_null] at hs ⊢
    exact hs
  case iload_n x1 =>
    rw [m_s_iload_n] at hs ⊢
    exact hs
  case iload x1 =>
    rw [m_s_iload] at hs ⊢
    exact hs
  case lload_n x1 =>
    rw [m_s_lload_n] at hs ⊢
    exact hs
  case lload x1 =>
    rw [m_s_lload] at hs ⊢
    exact hs
  case aload_n x1 =>
    rw [m_s_aload_n] at hs ⊢
    exact hs
  case aload x1 =>
    rw [m_s_aload] at hs ⊢
    exact hs
  case istore_n x1 =>
    rw [m_s_istore_n] at hs ⊢
    exact hs
  case istore x1 =>
    rw [m_s_istore] at hs ⊢
    exact hs
  case astore_n x1 =>
    rw [m_s_astore_n] at hs ⊢
    exact hs
  case astore x1 =>
    rw [m_s_astore] at hs ⊢
    exact hs
  case iinc x1 x2 =>
    rw [m_s_iinc] at hs ⊢
    exact hs
  case iadd  =>
    rw [m_s_iadd] at hs ⊢
    exact hs
  case isub  =>
    rw [m_s_isub] at hs ⊢
    exact hs
  case imul  =>
    rw [m_s_imul] at hs ⊢
    exact hs
  case iand  =>
    rw [m_s_iand] at hs ⊢
    exact hs
  case ior  =>
    rw [m_s_ior] at hs ⊢
    exact hs
  case ixor  =>
    rw [m_s_ixor] at hs ⊢
    exact hs
  case idiv  =>
    rw [m_s_idiv] at hs ⊢
    exact hs
  case irem  =>
    rw [m_s_irem] at hs ⊢
    exact hs
  case ishl  =>
    rw [m_s_ishl] at hs ⊢
    exact hs
  case ishr  =>
    rw [m_s_ishr] at hs ⊢
    exact hs
  case iushr  =>
    rw [m_s_iushr] at hs ⊢
    exact hs
  case land  =>
    rw [m_s_land] at hs ⊢
    exact hs
  case lor  =>
    rw [m_s_lor] at hs ⊢
    exact hs
  case lshl  =>
    rw [m_s_lshl] at hs ⊢
    exact hs
  case lshr  =>
    rw [m_s_lshr] at hs ⊢
    exact hs
  case lushr  =>
    rw [m_s_lushr] at hs ⊢
    exact hs
  case ineg  =>
    rw [m_s_ineg] at hs ⊢
    exact hs
  case i2l  =>
    rw [m_s_i2l] at hs ⊢
    exact hs
  case l2i  =>
    rw [m_s_l2i] at hs ⊢
    exact hs
  case dup  =>
    rw [m_s_dup] at hs ⊢
    exact hs
  case dup2  =>
    rw [m_s_dup2] at hs ⊢
    exact hs
  case pop  =>
    rw [m_s_pop] at hs ⊢
    exact hs
  case ifCond c q =>
    cases c
    · rw [m_s_ifCond_eq] at hs ⊢
      exact hs
    · rw [m_s_ifCond_ne] at hs ⊢
      exact hs
    · rw [m_s_ifCond_lt] at hs ⊢
      exact hs
    · rw [m_s_ifCond_ge] at hs ⊢
      exact hs
    · rw [m_s_ifCond_gt] at hs ⊢
      exact hs
    · rw [m_s_ifCond_le] at hs ⊢
      exact hs
  case if_icmp c q =>
    cases c
    · rw [m_s_if_icmp_eq] at hs ⊢
      exact hs
    · rw [m_s_if_icmp_ne] at hs ⊢
      exact hs
    · rw [m_s_if_icmp_lt] at hs ⊢
      exact hs
    · rw [m_s_if_icmp_ge] at hs ⊢
      exact hs
    · rw [m_s_if_icmp_gt] at hs ⊢
      exact hs
    · rw [m_s_if_icmp_le] at hs ⊢
      exact hs
  case ifnull x1 =>
    rw [m_s_ifnull] at hs ⊢
    exact hs
  case ifnonnull x1 =>
    rw [m_s_ifnonnull] at hs ⊢
    exact hs
  case goto x1 =>
    rw [m_s_goto] at hs ⊢
    exact hs
  case tableswitch x1 x2 x3 x4 =>
    rw [m_s_tableswitch] at hs ⊢
    exact hs
  case lookupswitch x1 x2 =>
    rw [m_s_lookupswitch] at hs ⊢
    exact hs
  case getfield x1 =>
    rw [m_s_getfield] at hs ⊢
    exact hs
  case putfield x1 =>
    rw [m_s_putfield] at hs ⊢
    exact hs
  case getstatic x1 =>
    rw [m_s_getstatic] at hs ⊢
    exact hs
  case new x1 =>
    rw [m_s_new] at hs ⊢
    exact hs
  case newarray x1 =>
    rw [m_s_newarray] at hs ⊢
    exact hs
  case anewarray x1 =>
    rw [m_s_anewarray] at hs ⊢
    exact hs
  case aaload  =>
    rw [m_s_aaload] at hs ⊢
    exact hs
  case iastore  =>
    rw [m_s_iastore] at hs ⊢
    exact hs
  case bastore  =>
    rw [m_s_bastore] at hs ⊢
    exact hs
  case aastore  =>
    rw [m_s_aastore] at hs ⊢
    exact hs
  case ireturn  =>
    rw [m_s_ireturn] at hs ⊢
    exact hs
  case areturn  =>
    rw [m_s_areturn] at hs ⊢
    exact hs
  case return_  =>
    rw [m_s_return_] at hs ⊢
    exact hs
  all_goals
    have h2 : (none : Option (m_C ⊕ m_R)) = some r := hs
    cases h2
theorem x_exec0 {X : Nat → List Int32} {c0 call : Nat → List Value → m_H → Option m_R} (hcall : ∀ j as h r, c0 j as h = some r → call j as h = some r) {code : List (Option m_E)} : ∀ (n pc : Nat) (lv : m_L) (st : List Value) (h : m_H) (r : m_R), m_exec m_X0 c0 code n pc lv st h = some r → m_exec X call code n pc lv st h = some r := by
  intro n
  induction n with
  | zero => intro pc lv st h r he; cases he
  | succ n ih =>
    intro pc lv st h r he
    simp only [m_exec] at he ⊢
    split at he
    · split at he
      · rename_i hs
        rw [x_stp0 hcall hs]
        exact ih _ _ _ _ _ he
      · rename_i hs
        rw [x_stp0 hcall hs]
        exact he
      · cases he
    · cases he
theorem x_run0 {X : Nat → List Int32} : ∀ (d j : Nat) (as : List Value) (h : m_H) (r : m_R), m_run m_X0 d j as h = some r → m_run X d j as h = some r := by
  intro d
  induction d with
  | zero => intro j as h r he; cases he
  | succ d ih =>
    intro j as h r he
    simp only [m_run] at he ⊢
    split at he
    · rename_i h1
      rw [if_pos h1]
      exact x_exec0 ih _ _ _ _ _ _ he
    · cases he
def m_hX : m_H := [(9, [.ref 1, .ref 58, .int 0, .ref 115, .ref 116]), (5, [.ref 2, .int 0, .ref 3, .int 0, .ref 4, .int 0, .ref 5, .int 0, .ref 6, .int 0, .int 0, .ref 7, .int 0, .ref 8]), (20, List.replicate 160 (.int 0)), (22, [.null, .null, .null, .null, .null, .null, .null, .null]), (23, [.ref 10, .ref 16, .ref 22, .ref 28, .ref 34, .ref 40, .ref 46, .ref 52]), (20, [.int 0, .int 0, .int 0, .int 0, .int 0, .int 0]), (24, List.replicate 20 (.null)), (24, [.null, .null, .null, .null, .null]), (7, [.ref 9, .int 0, .int 0, .int 0, .int 0]), (20, List.replicate 20 (.int 0)), (0, [.int 0, .int 0, .int 0, .int 0, .int 0, .ref 11, .ref 12, .ref 14]), (20, List.replicate 16 (.int 0)), (1, [.ref 13]), (20, List.replicate 84 (.int 0)), (1, [.ref 15]), (20, List.replicate 84 (.int 0)), (0, [.int 0, .int 0, .int 0, .int 0, .int 0, .ref 17, .ref 18, .ref 20]), (20, List.replicate 16 (.int 0)), (1, [.ref 19]), (20, List.replicate 84 (.int 0)), (1, [.ref 21]), (20, List.replicate 84 (.int 0)), (0, [.int 0, .int 0, .int 0, .int 0, .int 0, .ref 23, .ref 24, .ref 26]), (20, List.replicate 16 (.int 0)), (1, [.ref 25]), (20, List.replicate 84 (.int 0)), (1, [.ref 27]), (20, List.replicate 84 (.int 0)), (0, [.int 0, .int 0, .int 0, .int 0, .int 0, .ref 29, .ref 30, .ref 32]), (20, List.replicate 16 (.int 0)), (1, [.ref 31]), (20, List.replicate 84 (.int 0)), (1, [.ref 33]), (20, List.replicate 84 (.int 0)), (0, [.int 0, .int 0, .int 0, .int 0, .int 0, .ref 35, .ref 36, .ref 38]), (20, List.replicate 16 (.int 0)), (1, [.ref 37]), (20, List.replicate 84 (.int 0)), (1, [.ref 39]), (20, List.replicate 84 (.int 0)), (0, [.int 0, .int 0, .int 0, .int 0, .int 0, .ref 41, .ref 42, .ref 44]), (20, List.replicate 16 (.int 0)), (1, [.ref 43]), (20, List.replicate 84 (.int 0)), (1, [.ref 45]), (20, List.replicate 84 (.int 0)), (0, [.int 0, .int 0, .int 0, .int 0, .int 0, .ref 47, .ref 48, .ref 50]), (20, List.replicate 16 (.int 0)), (1, [.ref 49]), (20, List.replicate 84 (.int 0)), (1, [.ref 51]), (20, List.replicate 84 (.int 0)), (0, [.int 0, .int 0, .int 0, .int 0, .int 0, .ref 53, .ref 54, .ref 56]), (20, List.replicate 16 (.int 0)), (1, [.ref 55]), (20, List.replicate 84 (.int 0)), (1, [.ref 57]), (20, List.replicate 84 (.int 0)), (5, [.ref 59, .int 0, .ref 60, .int 0, .ref 61, .int 0, .ref 62, .int 0, .ref 63, .int 0, .int 0, .ref 64, .int 0, .ref 65]), (20, List.replicate 160 (.int 0)), (22, [.null, .null, .null, .null, .null, .null, .null, .null]), (23, [.ref 67, .ref 73, .ref 79, .ref 85, .ref 91, .ref 97, .ref 103, .ref 109]), (20, [.int 0, .int 0, .int 0, .int 0, .int 0, .int 0]), (24, List.replicate 20 (.null)), (24, [.null, .null, .null, .null, .null]), (7, [.ref 66, .int 0, .int 0, .int 0, .int 0]), (20, List.replicate 20 (.int 0)), (0, [.int 0, .int 0, .int 0, .int 0, .int 0, .ref 68, .ref 69, .ref 71]), (20, List.replicate 16 (.int 0)), (1, [.ref 70]), (20, List.replicate 84 (.int 0)), (1, [.ref 72]), (20, List.replicate 84 (.int 0)), (0, [.int 0, .int 0, .int 0, .int 0, .int 0, .ref 74, .ref 75, .ref 77]), (20, List.replicate 16 (.int 0)), (1, [.ref 76]), (20, List.replicate 84 (.int 0)), (1, [.ref 78]), (20, List.replicate 84 (.int 0)), (0, [.int 0, .int 0, .int 0, .int 0, .int 0, .ref 80, .ref 81, .ref 83]), (20, List.replicate 16 (.int 0)), (1, [.ref 82]), (20, List.replicate 84 (.int 0)), (1, [.ref 84]), (20, List.replicate 84 (.int 0)), (0, [.int 0, .int 0, .int 0, .int 0, .int 0, .ref 86, .ref 87, .ref 89]), (20, List.replicate 16 (.int 0)), (1, [.ref 88]), (20, List.replicate 84 (.int 0)), (1, [.ref 90]), (20, List.replicate 84 (.int 0)), (0, [.int 0, .int 0, .int 0, .int 0, .int 0, .ref 92, .ref 93, .ref 95]), (20, List.replicate 16 (.int 0)), (1, [.ref 94]), (20, List.replicate 84 (.int 0)), (1, [.ref 96]), (20, List.replicate 84 (.int 0)), (0, [.int 0, .int 0, .int 0, .int 0, .int 0, .ref 98, .ref 99, .ref 101]), (20, List.replicate 16 (.int 0)), (1, [.ref 100]), (20, List.replicate 84 (.int 0)), (1, [.ref 102]), (20, List.replicate 84 (.int 0)), (0, [.int 0, .int 0, .int 0, .int 0, .int 0, .ref 104, .ref 105, .ref 107]), (20, List.replicate 16 (.int 0)), (1, [.ref 106]), (20, List.replicate 84 (.int 0)), (1, [.ref 108]), (20, List.replicate 84 (.int 0)), (0, [.int 0, .int 0, .int 0, .int 0, .int 0, .ref 110, .ref 111, .ref 113]), (20, List.replicate 16 (.int 0)), (1, [.ref 112]), (20, List.replicate 84 (.int 0)), (1, [.ref 114]), (20, List.replicate 84 (.int 0)), (3, [.null, .int 0, .int 0, .null]), (4, [.ref 117, .ref 118, .ref 119, .ref 120, .int 0, .null, .int 0, .int 0, .int 0, .ref 121]), (25, [.ref 122, .ref 124, .ref 126, .ref 128, .ref 130, .ref 132, .ref 134, .ref 136, .ref 138, .ref 140, .ref 142, .ref 144, .ref 146, .ref 148, .ref 150, .ref 152]), (26, [.ref 154, .ref 158, .ref 162, .ref 166]), (22, [.null, .null, .null, .null]), (20, [.int 0, .int 0, .int 0, .int 0]), (20, [.int 0, .int 0, .int 0]), (1, [.ref 123]), (20, List.replicate 84 (.int 0)), (1, [.ref 125]), (20, List.replicate 84 (.int 0)), (1, [.ref 127]), (20, List.replicate 84 (.int 0)), (1, [.ref 129]), (20, List.replicate 84 (.int 0)), (1, [.ref 131]), (20, List.replicate 84 (.int 0)), (1, [.ref 133]), (20, List.replicate 84 (.int 0)), (1, [.ref 135]), (20, List.replicate 84 (.int 0)), (1, [.ref 137]), (20, List.replicate 84 (.int 0)), (1, [.ref 139]), (20, List.replicate 84 (.int 0)), (1, [.ref 141]), (20, List.replicate 84 (.int 0)), (1, [.ref 143]), (20, List.replicate 84 (.int 0)), (1, [.ref 145]), (20, List.replicate 84 (.int 0)), (1, [.ref 147]), (20, List.replicate 84 (.int 0)), (1, [.ref 149]), (20, List.replicate 84 (.int 0)), (1, [.ref 151]), (20, List.replicate 84 (.int 0)), (1, [.ref 153]), (20, List.replicate 84 (.int 0)), (8, [.int 0, .int 0, .int 0, .ref 155, .ref 156, .ref 157]), (20, List.replicate 16 (.int 0)), (20, List.replicate 16 (.int 0)), (20, List.replicate 16 (.int 0)), (8, [.int 0, .int 0, .int 0, .ref 159, .ref 160, .ref 161]), (20, List.replicate 16 (.int 0)), (20, List.replicate 16 (.int 0)), (20, List.replicate 16 (.int 0)), (8, [.int 0, .int 0, .int 0, .ref 163, .ref 164, .ref 165]), (20, List.replicate 16 (.int 0)), (20, List.replicate 16 (.int 0)), (20, List.replicate 16 (.int 0)), (8, [.int 0, .int 0, .int 0, .ref 167, .ref 168, .ref 169]), (20, List.replicate 16 (.int 0)), (20, List.replicate 16 (.int 0)), (20, List.replicate 16 (.int 0))]
def m_hM : m_H := [(10, [.int 0, .ref 171, .ref 172, .int 0, .ref 173, .ref 174, .ref 175, .ref 176, .ref 177, .int 0, .int 0, .int 0, .int 0, .int 0, .int 0, .ref 178, .ref 179, .int 0, .int 0, .int 0, .int 0, .int 0, .int 0, .int 0, .ref 180, .ref 181, .ref 182, .int 0, .ref 183, .ref 184, .ref 185, .ref 186, .ref 187, .ref 188, .ref 189, .ref 190, .ref 191, .int 0, .int 0, .ref 192, .int 0, .int 0, .int 0, .int 0]), (20, List.replicate 1800 (.int 0)), (20, List.replicate 1800 (.int 0)), (20, List.replicate 1600 (.int 0)), (20, [.int 0, .int 0, .int 0, .int 0, .int 0, .int 0, .int 0, .int 0]), (20, [.int 0, .int 0, .int 0, .int 0, .int 0, .int 0, .int 0, .int 0]), (20, List.replicate 64 (.int 0)), (20, List.replicate 64 (.int 0)), (20, List.replicate 336 (.int 0)), (21, List.replicate 80 (.int 0)), (20, [.int 0, .int 0, .int 0]), (20, [.int 0, .int 0, .int 0]), (20, [.int 0, .int 0, .int 0, .int 0]), (21, List.replicate 16 (.int 0)), (21, List.replicate 16 (.int 0)), (21, List.replicate 16 (.int 0)), (20, List.replicate 16 (.int 0)), (20, List.replicate 16 (.int 0)), (20, List.replicate 16 (.int 0)), (20, [.int 0, .int 0, .int 0, .int 0]), (20, [.int 0, .int 0, .int 0, .int 0]), (20, [.int 0, .int 0, .int 0, .int 0]), (20, List.replicate 20 (.int 0))]
def m_h0 : m_H := m_hX ++ m_hM
set_option maxRecDepth 100000 in
theorem x_ctorX : m_run m_X0 60 69 [.ref 0] [(9, m_dfl 9)] = some (none, m_hX) := by decide +kernel
set_option maxRecDepth 100000 in
theorem x_ctorM : m_run m_X0 60 104 [.ref 170] (m_hX ++ [(10, m_dfl 10)]) = some (none, m_h0) := by decide +kernel
theorem x_h0_ln : m_h0.length = 193 ∧ m_sz m_h0 = 11164 := by decide +kernel
end
section
/-! the law's calls on two fresh objects, one by one: rows laid by program (wip/p1/sym.py) -/
def lK : Nat → Nat → m_R → Prop := fun u w r => r.1 = some (.int 1) ∧ u ≤ 600000 ∧ w ≤ 7302250
set_option maxRecDepth 100000 in
set_option maxHeartbeats 4000000 in
theorem c_2 (n : Nat) (c a1 a2 a3 a4 a5 : Int32) : x_E (m_X [c, a1, a2, a3, a4, a5]) 60 181 193 11164 (n + 300) 232 [(3, .int 0), (2, .ref 170), (1, .ref 0), (0, .ref 1000000)] [] m_h0 lK := by
  refine x_in rfl rfl rfl ?_
  refine x_in rfl rfl rfl ?_
  refine x_in rfl rfl rfl ?_
  refine x_in rfl rfl rfl ?_
  refine x_top (show _ = Value.int ((1 : Int32)) from congrArg Value.int (by decide)) ?_
  refine x_in rfl rfl rfl ?_
  refine x_top (show _ = Value.int ((1 : Int32)) from congrArg Value.int (by decide)) ?_
  refine x_in rfl rfl rfl ?_
  refine x_in rfl rfl rfl ?_
  refine x_in rfl rfl rfl ?_
  refine x_in rfl rfl rfl ?_
  refine x_top (show _ = Value.int ((2 : Int32)) from congrArg Value.int (by decide)) ?_
  refine x_in rfl rfl rfl ?_
  refine x_top (show _ = Value.int ((2 : Int32)) from congrArg Value.int (by decide)) ?_
  refine x_in rfl rfl rfl ?_
  refine x_cV rfl rfl rfl rfl ⟨rfl, (Nat.le_of_ble_eq_true rfl), (Nat.le_of_ble_eq_true rfl)⟩ (x_enter (Nat.le_of_ble_eq_true rfl) ?_)
  refine x_in rfl rfl rfl ?_
  refine x_in rfl rfl rfl ?_
  refine x_in rfl rfl rfl ?_
  refine x_cV rfl rfl rfl rfl ⟨rfl, (Nat.le_of_ble_eq_true rfl), (Nat.le_of_ble_eq_true rfl)⟩ (x_enter (Nat.le_of_ble_eq_true rfl) ?_)
  refine x_in rfl rfl rfl ?_
  refine x_br rfl rfl (fun c1 => ?_) (fun c1 => ?_)
  · have ec1 := (z_1 (0) (by decide)).mp c1
    refine x_in rfl rfl rfl ?_
    refine x_ret rfl rfl ?_
    refine x_in rfl rfl rfl ?_
    refine x_in rfl rfl rfl ?_
    refine x_in rfl rfl rfl ?_
    refine x_in rfl rfl rfl ?_
    refine x_top (show _ = Value.int ((-1 : Int32)) from congrArg Value.int (by decide)) ?_
    refine x_ret rfl rfl ?_
    refine x_in rfl rfl rfl ?_
    refine x_in rfl rfl rfl ?_
    refine x_in rfl rfl rfl ?_
    refine x_in rfl rfl rfl ?_
    refine x_top (show _ = Value.int ((1 : Int32)) from congrArg Value.int (by decide)) ?_
    refine x_in rfl rfl rfl ?_
    refine x_top (show _ = Value.int ((1 : Int32)) from congrArg Value.int (by decide)) ?_
    refine x_in rfl rfl rfl ?_
    refine x_in rfl rfl rfl ?_
    refine x_in rfl rfl rfl ?_
    refine x_in rfl rfl rfl ?_
    refine x_top (show _ = Value.int ((2 : Int32)) from congrArg Value.int (by decide)) ?_
    refine x_in rfl rfl rfl ?_
    refine x_top (show _ = Value.int ((2 : Int32)) from congrArg Value.int (by decide)) ?_
    refine x_in rfl rfl rfl ?_
    refine x_cV rfl rfl rfl rfl ⟨rfl, (Nat.le_of_ble_eq_true rfl), (Nat.le_of_ble_eq_true rfl)⟩ (x_enter (Nat.le_of_ble_eq_true rfl) ?_)
    refine x_in rfl rfl rfl ?_
    refine x_in rfl rfl rfl ?_
    refine x_cV rfl rfl rfl rfl ⟨rfl, (Nat.le_of_ble_eq_true rfl), (Nat.le_of_ble_eq_true rfl)⟩ (x_enter (Nat.le_of_ble_eq_true rfl) ?_)
    refine x_in rfl rfl rfl ?_
    refine x_in rfl rfl rfl ?_
    refine x_top (show _ = Value.int ((0 : Int32)) from congrArg Value.int (by decide)) ?_
    refine x_in rfl rfl rfl ?_
    refine x_in rfl rfl rfl ?_
    refine x_in rfl rfl rfl ?_
    refine x_top (show _ = Value.int ((0 : Int32)) from congrArg Value.int (by decide)) ?_
    refine x_in rfl rfl rfl ?_
    refine x_in rfl rfl rfl ?_
    refine x_top (show _ = Value.int ((1 : Int32)) from congrArg Value.int (by decide)) ?_
    refine x_in rfl rfl rfl ?_
    refine x_top (show _ = Value.int ((-1 : Int32)) from congrArg Value.int (by decide)) ?_
    refine x_cS rfl (by decide) rfl rfl ⟨(Nat.le_of_ble_eq_true rfl), (Nat.le_of_ble_eq_true rfl)⟩ (x_enter (Nat.le_of_ble_eq_true rfl) ?_)
    refine x_in rfl rfl rfl ?_
    refine x_in rfl rfl rfl ?_
    refine x_bT rfl rfl ((z_1 (0) (by decide)).mpr (by omega)) ?_
    refine x_in rfl rfl rfl ?_
    refine x_top (show _ = Value.int ((0 : Int32)) from congrArg Value.int (by decide)) ?_
    refine x_ret rfl rfl ?_
    refine x_ret rfl rfl ?_
    refine x_in rfl rfl rfl ?_
    refine x_in rfl rfl rfl ?_
    refine x_top (show _ = Value.int ((-1 : Int32)) from congrArg Value.int (by decide)) ?_
    refine x_ret rfl rfl ?_
    refine x_in rfl rfl rfl ?_
    refine x_iinc (z := (6 : Int32)) rfl rfl (by decide) ?_
    refine x_in rfl rfl rfl ?_
    refine x_in rfl rfl rfl ?_
    refine x_in rfl rfl rfl ?_
    refine x_in rfl rfl rfl ?_
    refine x_top (show _ = Value.int ((6 : Int32)) from rfl) ?_
    refine x_in rfl rfl rfl ?_
    refine x_top (show _ = Value.int ((6 : Int32)) from congrArg Value.int (by decide)) ?_
    refine x_in rfl rfl rfl ?_
    refine x_top (show _ = Value.int ((0 : Int32)) from congrArg Value.int (by decide)) ?_
    refine x_in rfl rfl rfl ?_
    refine x_in rfl rfl rfl ?_
    refine x_top (show _ = Value.int ((1 : Int32)) from congrArg Value.int (by decide)) ?_
    refine x_ret rfl rfl ?_
    exact ⟨rfl, by decide, by decide⟩
  · have ec1 := mt (z_1 (0) (by decide)).mpr c1
    refine x_in rfl rfl rfl ?_
    refine x_in rfl rfl rfl ?_
    refine x_in rfl rfl rfl ?_
    refine x_bT rfl rfl ((z_4 (0) (by decide)).mpr (by omega)) ?_
    refine x_in rfl rfl rfl ?_
    refine x_ret rfl rfl ?_
    refine x_in rfl rfl rfl ?_
    refine x_in rfl rfl rfl ?_
    refine x_in rfl rfl rfl ?_
    refine x_in rfl rfl rfl ?_
    refine x_top (show _ = Value.int ((-1 : Int32)) from congrArg Value.int (by decide)) ?_
    refine x_ret rfl rfl ?_
    refine x_in rfl rfl rfl ?_
    refine x_in rfl rfl rfl ?_
    refine x_in rfl rfl rfl ?_
    refine x_in rfl rfl rfl ?_
    refine x_top (show _ = Value.int ((1 : Int32)) from congrArg Value.int (by decide)) ?_
    refine x_in rfl rfl rfl ?_
    refine x_top (show _ = Value.int ((1 : Int32)) from congrArg Value.int (by decide)) ?_
    refine x_in rfl rfl rfl ?_
    refine x_in rfl rfl rfl ?_
    refine x_in rfl rfl rfl ?_
    refine x_in rfl rfl rfl ?_
    refine x_top (show _ = Value.int ((2 : Int32)) from congrArg Value.int (by decide)) ?_
    refine x_in rfl rfl rfl ?_
    refine x_top (show _ = Value.int ((2 : Int32)) from congrArg Value.int (by decide)) ?_
    refine x_in rfl rfl rfl ?_
    refine x_cV rfl rfl rfl rfl ⟨rfl, (Nat.le_of_ble_eq_true rfl), (Nat.le_of_ble_eq_true rfl)⟩ (x_enter (Nat.le_of_ble_eq_true rfl) ?_)
    refine x_in rfl rfl rfl ?_
    refine x_in rfl rfl rfl ?_
    refine x_cV rfl rfl rfl rfl ⟨rfl, (Nat.le_of_ble_eq_true rfl), (Nat.le_of_ble_eq_true rfl)⟩ (x_enter (Nat.le_of_ble_eq_true rfl) ?_)
    refine x_in rfl rfl rfl ?_
    refine x_in rfl rfl rfl ?_
    refine x_top (show _ = Value.int ((0 : Int32)) from congrArg Value.int (by decide)) ?_
    refine x_in rfl rfl rfl ?_
    refine x_in rfl rfl rfl ?_
    refine x_in rfl rfl rfl ?_
    refine x_top (show _ = Value.int ((0 : Int32)) from congrArg Value.int (by decide)) ?_
    refine x_in rfl rfl rfl ?_
    refine x_in rfl rfl rfl ?_
    refine x_top (show _ = Value.int ((1 : Int32)) from congrArg Value.int (by decide)) ?_
    refine x_in rfl rfl rfl ?_
    refine x_top (show _ = Value.int ((-1 : Int32)) from congrArg Value.int (by decide)) ?_
    refine x_cS rfl (by decide) rfl rfl ⟨(Nat.le_of_ble_eq_true rfl), (Nat.le_of_ble_eq_true rfl)⟩ (x_enter (Nat.le_of_ble_eq_true rfl) ?_)
    refine x_in rfl rfl rfl ?_
    refine x_in rfl rfl rfl ?_
    refine x_bF rfl rfl (mt (z_1 (0) (by decide)).mp (by omega)) ?_
    refine x_in rfl rfl rfl ?_
    refine x_in rfl rfl rfl ?_
    refine x_bT rfl rfl ((z_2 (-1) (by decide)).mpr (by omega)) ?_
    refine x_in rfl rfl rfl ?_
    refine x_top (show _ = Value.int ((0 : Int32)) from congrArg Value.int (by decide)) ?_
    refine x_ret rfl rfl ?_
    refine x_ret rfl rfl ?_
    refine x_in rfl rfl rfl ?_
    refine x_in rfl rfl rfl ?_
    refine x_top (show _ = Value.int ((-1 : Int32)) from congrArg Value.int (by decide)) ?_
    refine x_ret rfl rfl ?_
    refine x_in rfl rfl rfl ?_
    refine x_iinc (z := (6 : Int32)) rfl rfl (by decide) ?_
    refine x_in rfl rfl rfl ?_
    refine x_in rfl rfl rfl ?_
    refine x_in rfl rfl rfl ?_
    refine x_in rfl rfl rfl ?_
    refine x_top (show _ = Value.int ((6 : Int32)) from rfl) ?_
    refine x_in rfl rfl rfl ?_
    refine x_top (show _ = Value.int ((6 : Int32)) from congrArg Value.int (by decide)) ?_
    refine x_in rfl rfl rfl ?_
    refine x_top (show _ = Value.int ((0 : Int32)) from congrArg Value.int (by decide)) ?_
    refine x_in rfl rfl rfl ?_
    refine x_in rfl rfl rfl ?_
    refine x_top (show _ = Value.int ((1 : Int32)) from congrArg Value.int (by decide)) ?_
    refine x_ret rfl rfl ?_
    exact ⟨rfl, by decide, by decide⟩
set_option maxRecDepth 100000 in
set_option maxHeartbeats 4000000 in
theorem c_3 (n : Nat) (c a1 a2 a3 a4 a5 : Int32) : x_E (m_X [c, a1, a2, a3, a4, a5]) 60 181 193 11164 (n + 300) 265 [(3, .int 0), (2, .ref 170), (1, .ref 0), (0, .ref 1000000)] [] m_h0 lK := by
  refine x_in rfl rfl rfl ?_
  refine x_in rfl rfl rfl ?_
  refine x_in rfl rfl rfl ?_
  refine x_in rfl rfl rfl ?_
  refine x_top (show _ = Value.int ((1 : Int32)) from congrArg Value.int (by decide)) ?_
  refine x_in rfl rfl rfl ?_
  refine x_top (show _ = Value.int ((1 : Int32)) from congrArg Value.int (by decide)) ?_
  refine x_in rfl rfl rfl ?_
  refine x_in rfl rfl rfl ?_
  refine x_in rfl rfl rfl ?_
  refine x_in rfl rfl rfl ?_
  refine x_top (show _ = Value.int ((2 : Int32)) from congrArg Value.int (by decide)) ?_
  refine x_in rfl rfl rfl ?_
  refine x_top (show _ = Value.int ((2 : Int32)) from congrArg Value.int (by decide)) ?_
  refine x_in rfl rfl rfl ?_
  refine x_in rfl rfl rfl ?_
  refine x_in rfl rfl rfl ?_
  refine x_in rfl rfl rfl ?_
  refine x_top (show _ = Value.int ((3 : Int32)) from congrArg Value.int (by decide)) ?_
  refine x_in rfl rfl rfl ?_
  refine x_top (show _ = Value.int ((3 : Int32)) from congrArg Value.int (by decide)) ?_
  refine x_in rfl rfl rfl ?_
  refine x_in rfl rfl rfl ?_
  refine x_in rfl rfl rfl ?_
  refine x_in rfl rfl rfl ?_
  refine x_top (show _ = Value.int ((4 : Int32)) from congrArg Value.int (by decide)) ?_
  refine x_in rfl rfl rfl ?_
  refine x_top (show _ = Value.int ((4 : Int32)) from congrArg Value.int (by decide)) ?_
  refine x_in rfl rfl rfl ?_
  refine x_cV rfl rfl rfl rfl ⟨rfl, (Nat.le_of_ble_eq_true rfl), (Nat.le_of_ble_eq_true rfl)⟩ (x_enter (Nat.le_of_ble_eq_true rfl) ?_)
  refine x_in rfl rfl rfl ?_
  refine x_in rfl rfl rfl ?_
  refine x_in rfl rfl rfl ?_
  refine x_cV rfl rfl rfl rfl ⟨rfl, (Nat.le_of_ble_eq_true rfl), (Nat.le_of_ble_eq_true rfl)⟩ (x_enter (Nat.le_of_ble_eq_true rfl) ?_)
  refine x_in rfl rfl rfl ?_
  refine x_br rfl rfl (fun c1 => ?_) (fun c1 => ?_)
  · have ec1 := (z_1 (0) (by decide)).mp c1
    refine x_in rfl rfl rfl ?_
    refine x_ret rfl rfl ?_
    refine x_in rfl rfl rfl ?_
    refine x_in rfl rfl rfl ?_
    refine x_in rfl rfl rfl ?_
    refine x_in rfl rfl rfl ?_
    refine x_top (show _ = Value.int ((-1 : Int32)) from congrArg Value.int (by decide)) ?_
    refine x_ret rfl rfl ?_
    refine x_in rfl rfl rfl ?_
    refine x_in rfl rfl rfl ?_
    refine x_in rfl rfl rfl ?_
    refine x_in rfl rfl rfl ?_
    refine x_top (show _ = Value.int ((1 : Int32)) from congrArg Value.int (by decide)) ?_
    refine x_in rfl rfl rfl ?_
    refine x_top (show _ = Value.int ((1 : Int32)) from congrArg Value.int (by decide)) ?_
    refine x_in rfl rfl rfl ?_
    refine x_in rfl rfl rfl ?_
    refine x_in rfl rfl rfl ?_
    refine x_in rfl rfl rfl ?_
    refine x_top (show _ = Value.int ((2 : Int32)) from congrArg Value.int (by decide)) ?_
    refine x_in rfl rfl rfl ?_
    refine x_top (show _ = Value.int ((2 : Int32)) from congrArg Value.int (by decide)) ?_
    refine x_in rfl rfl rfl ?_
    refine x_in rfl rfl rfl ?_
    refine x_in rfl rfl rfl ?_
    refine x_in rfl rfl rfl ?_
    refine x_top (show _ = Value.int ((3 : Int32)) from congrArg Value.int (by decide)) ?_
    refine x_in rfl rfl rfl ?_
    refine x_top (show _ = Value.int ((3 : Int32)) from congrArg Value.int (by decide)) ?_
    refine x_in rfl rfl rfl ?_
    refine x_in rfl rfl rfl ?_
    refine x_in rfl rfl rfl ?_
    refine x_in rfl rfl rfl ?_
    refine x_top (show _ = Value.int ((4 : Int32)) from congrArg Value.int (by decide)) ?_
    refine x_in rfl rfl rfl ?_
    refine x_top (show _ = Value.int ((4 : Int32)) from congrArg Value.int (by decide)) ?_
    refine x_in rfl rfl rfl ?_
    refine x_cV rfl rfl rfl rfl ⟨rfl, (Nat.le_of_ble_eq_true rfl), (Nat.le_of_ble_eq_true rfl)⟩ (x_enter (Nat.le_of_ble_eq_true rfl) ?_)
    refine x_in rfl rfl rfl ?_
    refine x_in rfl rfl rfl ?_
    refine x_cV rfl rfl rfl rfl ⟨rfl, (Nat.le_of_ble_eq_true rfl), (Nat.le_of_ble_eq_true rfl)⟩ (x_enter (Nat.le_of_ble_eq_true rfl) ?_)
    refine x_in rfl rfl rfl ?_
    refine x_in rfl rfl rfl ?_
    refine x_top (show _ = Value.int ((0 : Int32)) from congrArg Value.int (by decide)) ?_
    refine x_in rfl rfl rfl ?_
    refine x_in rfl rfl rfl ?_
    refine x_in rfl rfl rfl ?_
    refine x_top (show _ = Value.int ((0 : Int32)) from congrArg Value.int (by decide)) ?_
    refine x_in rfl rfl rfl ?_
    refine x_in rfl rfl rfl ?_
    refine x_top (show _ = Value.int ((1 : Int32)) from congrArg Value.int (by decide)) ?_
    refine x_in rfl rfl rfl ?_
    refine x_top (show _ = Value.int ((-1 : Int32)) from congrArg Value.int (by decide)) ?_
    refine x_cS rfl (by decide) rfl rfl ⟨(Nat.le_of_ble_eq_true rfl), (Nat.le_of_ble_eq_true rfl)⟩ (x_enter (Nat.le_of_ble_eq_true rfl) ?_)
    refine x_in rfl rfl rfl ?_
    refine x_in rfl rfl rfl ?_
    refine x_bT rfl rfl ((z_1 (0) (by decide)).mpr (by omega)) ?_
    refine x_in rfl rfl rfl ?_
    refine x_top (show _ = Value.int ((0 : Int32)) from congrArg Value.int (by decide)) ?_
    refine x_ret rfl rfl ?_
    refine x_ret rfl rfl ?_
    refine x_in rfl rfl rfl ?_
    refine x_in rfl rfl rfl ?_
    refine x_top (show _ = Value.int ((-1 : Int32)) from congrArg Value.int (by decide)) ?_
    refine x_ret rfl rfl ?_
    refine x_in rfl rfl rfl ?_
    refine x_iinc (z := (6 : Int32)) rfl rfl (by decide) ?_
    refine x_in rfl rfl rfl ?_
    refine x_in rfl rfl rfl ?_
    refine x_in rfl rfl rfl ?_
    refine x_in rfl rfl rfl ?_
    refine x_top (show _ = Value.int ((6 : Int32)) from rfl) ?_
    refine x_in rfl rfl rfl ?_
    refine x_top (show _ = Value.int ((6 : Int32)) from congrArg Value.int (by decide)) ?_
    refine x_in rfl rfl rfl ?_
    refine x_top (show _ = Value.int ((0 : Int32)) from congrArg Value.int (by decide)) ?_
    refine x_in rfl rfl rfl ?_
    refine x_in rfl rfl rfl ?_
    refine x_top (show _ = Value.int ((1 : Int32)) from congrArg Value.int (by decide)) ?_
    refine x_ret rfl rfl ?_
    exact ⟨rfl, by decide, by decide⟩
  · have ec1 := mt (z_1 (0) (by decide)).mpr c1
    refine x_in rfl rfl rfl ?_
    refine x_in rfl rfl rfl ?_
    refine x_in rfl rfl rfl ?_
    refine x_bT rfl rfl ((z_4 (0) (by decide)).mpr (by omega)) ?_
    refine x_in rfl rfl rfl ?_
    refine x_ret rfl rfl ?_
    refine x_in rfl rfl rfl ?_
    refine x_in rfl rfl rfl ?_
    refine x_in rfl rfl rfl ?_
    refine x_in rfl rfl rfl ?_
    refine x_top (show _ = Value.int ((-1 : Int32)) from congrArg Value.int (by decide)) ?_
    refine x_ret rfl rfl ?_
    refine x_in rfl rfl rfl ?_
    refine x_in rfl rfl rfl ?_
    refine x_in rfl rfl rfl ?_
    refine x_in rfl rfl rfl ?_
    refine x_top (show _ = Value.int ((1 : Int32)) from congrArg Value.int (by decide)) ?_
    refine x_in rfl rfl rfl ?_
    refine x_top (show _ = Value.int ((1 : Int32)) from congrArg Value.int (by decide)) ?_
    refine x_in rfl rfl rfl ?_
    refine x_in rfl rfl rfl ?_
    refine x_in rfl rfl rfl ?_
    refine x_in rfl rfl rfl ?_
    refine x_top (show _ = Value.int ((2 : Int32)) from congrArg Value.int (by decide)) ?_
    refine x_in rfl rfl rfl ?_
    refine x_top (show _ = Value.int ((2 : Int32)) from congrArg Value.int (by decide)) ?_
    refine x_in rfl rfl rfl ?_
    refine x_in rfl rfl rfl ?_
    refine x_in rfl rfl rfl ?_
    refine x_in rfl rfl rfl ?_
    refine x_top (show _ = Value.int ((3 : Int32)) from congrArg Value.int (by decide)) ?_
    refine x_in rfl rfl rfl ?_
    refine x_top (show _ = Value.int ((3 : Int32)) from congrArg Value.int (by decide)) ?_
    refine x_in rfl rfl rfl ?_
    refine x_in rfl rfl rfl ?_
    refine x_in rfl rfl rfl ?_
    refine x_in rfl rfl rfl ?_
    refine x_top (show _ = Value.int ((4 : Int32)) from congrArg Value.int (by decide)) ?_
    refine x_in rfl rfl rfl ?_
    refine x_top (show _ = Value.int ((4 : Int32)) from congrArg Value.int (by decide)) ?_
    refine x_in rfl rfl rfl ?_
    refine x_cV rfl rfl rfl rfl ⟨rfl, (Nat.le_of_ble_eq_true rfl), (Nat.le_of_ble_eq_true rfl)⟩ (x_enter (Nat.le_of_ble_eq_true rfl) ?_)
    refine x_in rfl rfl rfl ?_
    refine x_in rfl rfl rfl ?_
    refine x_cV rfl rfl rfl rfl ⟨rfl, (Nat.le_of_ble_eq_true rfl), (Nat.le_of_ble_eq_true rfl)⟩ (x_enter (Nat.le_of_ble_eq_true rfl) ?_)
    refine x_in rfl rfl rfl ?_
    refine x_in rfl rfl rfl ?_
    refine x_top (show _ = Value.int ((0 : Int32)) from congrArg Value.int (by decide)) ?_
    refine x_in rfl rfl rfl ?_
    refine x_in rfl rfl rfl ?_
    refine x_in rfl rfl rfl ?_
    refine x_top (show _ = Value.int ((0 : Int32)) from congrArg Value.int (by decide)) ?_
    refine x_in rfl rfl rfl ?_
    refine x_in rfl rfl rfl ?_
    refine x_top (show _ = Value.int ((1 : Int32)) from congrArg Value.int (by decide)) ?_
    refine x_in rfl rfl rfl ?_
    refine x_top (show _ = Value.int ((-1 : Int32)) from congrArg Value.int (by decide)) ?_
    refine x_cS rfl (by decide) rfl rfl ⟨(Nat.le_of_ble_eq_true rfl), (Nat.le_of_ble_eq_true rfl)⟩ (x_enter (Nat.le_of_ble_eq_true rfl) ?_)
    refine x_in rfl rfl rfl ?_
    refine x_in rfl rfl rfl ?_
    refine x_bF rfl rfl (mt (z_1 (0) (by decide)).mp (by omega)) ?_
    refine x_in rfl rfl rfl ?_
    refine x_in rfl rfl rfl ?_
    refine x_bT rfl rfl ((z_2 (-1) (by decide)).mpr (by omega)) ?_
    refine x_in rfl rfl rfl ?_
    refine x_top (show _ = Value.int ((0 : Int32)) from congrArg Value.int (by decide)) ?_
    refine x_ret rfl rfl ?_
    refine x_ret rfl rfl ?_
    refine x_in rfl rfl rfl ?_
    refine x_in rfl rfl rfl ?_
    refine x_top (show _ = Value.int ((-1 : Int32)) from congrArg Value.int (by decide)) ?_
    refine x_ret rfl rfl ?_
    refine x_in rfl rfl rfl ?_
    refine x_iinc (z := (6 : Int32)) rfl rfl (by decide) ?_
    refine x_in rfl rfl rfl ?_
    refine x_in rfl rfl rfl ?_
    refine x_in rfl rfl rfl ?_
    refine x_in rfl rfl rfl ?_
    refine x_top (show _ = Value.int ((6 : Int32)) from rfl) ?_
    refine x_in rfl rfl rfl ?_
    refine x_top (show _ = Value.int ((6 : Int32)) from congrArg Value.int (by decide)) ?_
    refine x_in rfl rfl rfl ?_
    refine x_top (show _ = Value.int ((0 : Int32)) from congrArg Value.int (by decide)) ?_
    refine x_in rfl rfl rfl ?_
    refine x_in rfl rfl rfl ?_
    refine x_top (show _ = Value.int ((1 : Int32)) from congrArg Value.int (by decide)) ?_
    refine x_ret rfl rfl ?_
    exact ⟨rfl, by decide, by decide⟩
set_option maxRecDepth 100000 in
set_option maxHeartbeats 4000000 in
theorem c_4 (n : Nat) (c a1 a2 a3 a4 a5 : Int32) : x_E (m_X [c, a1, a2, a3, a4, a5]) 60 181 193 11164 (n + 300) 318 [(3, .int 0), (2, .ref 170), (1, .ref 0), (0, .ref 1000000)] [] m_h0 lK := by
  refine x_in rfl rfl rfl ?_
  refine x_in rfl rfl rfl ?_
  refine x_in rfl rfl rfl ?_
  refine x_in rfl rfl rfl ?_
  refine x_top (show _ = Value.int ((1 : Int32)) from congrArg Value.int (by decide)) ?_
  refine x_in rfl rfl rfl ?_
  refine x_top (show _ = Value.int ((1 : Int32)) from congrArg Value.int (by decide)) ?_
  refine x_in rfl rfl rfl ?_
  refine x_in rfl rfl rfl ?_
  refine x_in rfl rfl rfl ?_
  refine x_in rfl rfl rfl ?_
  refine x_top (show _ = Value.int ((2 : Int32)) from congrArg Value.int (by decide)) ?_
  refine x_in rfl rfl rfl ?_
  refine x_top (show _ = Value.int ((2 : Int32)) from congrArg Value.int (by decide)) ?_
  refine x_in rfl rfl rfl ?_
  refine x_cV rfl rfl rfl rfl ⟨rfl, (Nat.le_of_ble_eq_true rfl), (Nat.le_of_ble_eq_true rfl)⟩ (x_enter (Nat.le_of_ble_eq_true rfl) ?_)
  refine x_in rfl rfl rfl ?_
  refine x_br rfl rfl (fun c1 => ?_) (fun c1 => ?_)
  · have ec1 := (z_1 (0) (by decide)).mp c1
    refine x_in rfl rfl rfl ?_
    refine x_top (show _ = Value.int ((-1 : Int32)) from congrArg Value.int (by decide)) ?_
    refine x_ret rfl rfl ?_
    refine x_in rfl rfl rfl ?_
    refine x_in rfl rfl rfl ?_
    refine x_in rfl rfl rfl ?_
    refine x_in rfl rfl rfl ?_
    refine x_top (show _ = Value.int ((1 : Int32)) from congrArg Value.int (by decide)) ?_
    refine x_in rfl rfl rfl ?_
    refine x_top (show _ = Value.int ((1 : Int32)) from congrArg Value.int (by decide)) ?_
    refine x_in rfl rfl rfl ?_
    refine x_in rfl rfl rfl ?_
    refine x_in rfl rfl rfl ?_
    refine x_in rfl rfl rfl ?_
    refine x_top (show _ = Value.int ((2 : Int32)) from congrArg Value.int (by decide)) ?_
    refine x_in rfl rfl rfl ?_
    refine x_top (show _ = Value.int ((2 : Int32)) from congrArg Value.int (by decide)) ?_
    refine x_in rfl rfl rfl ?_
    refine x_cV rfl rfl rfl rfl ⟨rfl, (Nat.le_of_ble_eq_true rfl), (Nat.le_of_ble_eq_true rfl)⟩ (x_enter (Nat.le_of_ble_eq_true rfl) ?_)
    refine x_in rfl rfl rfl ?_
    refine x_in rfl rfl rfl ?_
    refine x_top (show _ = Value.int ((0 : Int32)) from congrArg Value.int (by decide)) ?_
    refine x_in rfl rfl rfl ?_
    refine x_top (show _ = Value.int ((6 : Int32)) from congrArg Value.int (by decide)) ?_
    refine x_cS rfl (by decide) rfl rfl ⟨(Nat.le_of_ble_eq_true rfl), (Nat.le_of_ble_eq_true rfl)⟩ (x_enter (Nat.le_of_ble_eq_true rfl) ?_)
    refine x_in rfl rfl rfl ?_
    refine x_in rfl rfl rfl ?_
    refine x_bT rfl rfl ((z_1 (0) (by decide)).mpr (by omega)) ?_
    refine x_in rfl rfl rfl ?_
    refine x_top (show _ = Value.int ((0 : Int32)) from congrArg Value.int (by decide)) ?_
    refine x_ret rfl rfl ?_
    refine x_in rfl rfl rfl ?_
    refine x_in rfl rfl rfl ?_
    refine x_top (show _ = Value.int ((-1 : Int32)) from congrArg Value.int (by decide)) ?_
    refine x_ret rfl rfl ?_
    refine x_in rfl rfl rfl ?_
    refine x_iinc (z := (6 : Int32)) rfl rfl (by decide) ?_
    refine x_in rfl rfl rfl ?_
    refine x_in rfl rfl rfl ?_
    refine x_in rfl rfl rfl ?_
    refine x_in rfl rfl rfl ?_
    refine x_top (show _ = Value.int ((6 : Int32)) from rfl) ?_
    refine x_in rfl rfl rfl ?_
    refine x_top (show _ = Value.int ((6 : Int32)) from congrArg Value.int (by decide)) ?_
    refine x_in rfl rfl rfl ?_
    refine x_top (show _ = Value.int ((0 : Int32)) from congrArg Value.int (by decide)) ?_
    refine x_in rfl rfl rfl ?_
    refine x_in rfl rfl rfl ?_
    refine x_top (show _ = Value.int ((1 : Int32)) from congrArg Value.int (by decide)) ?_
    refine x_ret rfl rfl ?_
    exact ⟨rfl, by decide, by decide⟩
  · have ec1 := mt (z_1 (0) (by decide)).mpr c1
    refine x_in rfl rfl rfl ?_
    refine x_in rfl rfl rfl ?_
    refine x_top (show _ = Value.int ((7 : Int32)) from congrArg Value.int (by decide)) ?_
    refine x_br rfl rfl (fun c2 => ?_) (fun c2 => ?_)
    · have ec2 := (z_4 (7) (by decide)).mp c2
      refine x_in rfl rfl rfl ?_
      refine x_top (show _ = Value.int ((-1 : Int32)) from congrArg Value.int (by decide)) ?_
      refine x_ret rfl rfl ?_
      refine x_in rfl rfl rfl ?_
      refine x_in rfl rfl rfl ?_
      refine x_in rfl rfl rfl ?_
      refine x_in rfl rfl rfl ?_
      refine x_top (show _ = Value.int ((1 : Int32)) from congrArg Value.int (by decide)) ?_
      refine x_in rfl rfl rfl ?_
      refine x_top (show _ = Value.int ((1 : Int32)) from congrArg Value.int (by decide)) ?_
      refine x_in rfl rfl rfl ?_
      refine x_in rfl rfl rfl ?_
      refine x_in rfl rfl rfl ?_
      refine x_in rfl rfl rfl ?_
      refine x_top (show _ = Value.int ((2 : Int32)) from congrArg Value.int (by decide)) ?_
      refine x_in rfl rfl rfl ?_
      refine x_top (show _ = Value.int ((2 : Int32)) from congrArg Value.int (by decide)) ?_
      refine x_in rfl rfl rfl ?_
      refine x_cV rfl rfl rfl rfl ⟨rfl, (Nat.le_of_ble_eq_true rfl), (Nat.le_of_ble_eq_true rfl)⟩ (x_enter (Nat.le_of_ble_eq_true rfl) ?_)
      refine x_in rfl rfl rfl ?_
      refine x_in rfl rfl rfl ?_
      refine x_top (show _ = Value.int ((0 : Int32)) from congrArg Value.int (by decide)) ?_
      refine x_in rfl rfl rfl ?_
      refine x_top (show _ = Value.int ((6 : Int32)) from congrArg Value.int (by decide)) ?_
      refine x_cS rfl (by decide) rfl rfl ⟨(Nat.le_of_ble_eq_true rfl), (Nat.le_of_ble_eq_true rfl)⟩ (x_enter (Nat.le_of_ble_eq_true rfl) ?_)
      refine x_in rfl rfl rfl ?_
      refine x_in rfl rfl rfl ?_
      refine x_bF rfl rfl (mt (z_1 (0) (by decide)).mp (by omega)) ?_
      refine x_in rfl rfl rfl ?_
      refine x_in rfl rfl rfl ?_
      refine x_bT rfl rfl ((z_2 (6) (by decide)).mpr (by omega)) ?_
      refine x_in rfl rfl rfl ?_
      refine x_top (show _ = Value.int ((0 : Int32)) from congrArg Value.int (by decide)) ?_
      refine x_ret rfl rfl ?_
      refine x_in rfl rfl rfl ?_
      refine x_in rfl rfl rfl ?_
      refine x_top (show _ = Value.int ((-1 : Int32)) from congrArg Value.int (by decide)) ?_
      refine x_ret rfl rfl ?_
      refine x_in rfl rfl rfl ?_
      refine x_iinc (z := (6 : Int32)) rfl rfl (by decide) ?_
      refine x_in rfl rfl rfl ?_
      refine x_in rfl rfl rfl ?_
      refine x_in rfl rfl rfl ?_
      refine x_in rfl rfl rfl ?_
      refine x_top (show _ = Value.int ((6 : Int32)) from rfl) ?_
      refine x_in rfl rfl rfl ?_
      refine x_top (show _ = Value.int ((6 : Int32)) from congrArg Value.int (by decide)) ?_
      refine x_in rfl rfl rfl ?_
      refine x_top (show _ = Value.int ((0 : Int32)) from congrArg Value.int (by decide)) ?_
      refine x_in rfl rfl rfl ?_
      refine x_in rfl rfl rfl ?_
      refine x_top (show _ = Value.int ((1 : Int32)) from congrArg Value.int (by decide)) ?_
      refine x_ret rfl rfl ?_
      exact ⟨rfl, by decide, by decide⟩
    · have ec2 := mt (z_4 (7) (by decide)).mpr c2
      refine x_in rfl rfl rfl ?_
      refine x_in rfl rfl rfl ?_
      refine x_in rfl rfl rfl ?_
      refine x_cV rfl rfl rfl rfl ⟨rfl, (Nat.le_of_ble_eq_true rfl), (Nat.le_of_ble_eq_true rfl)⟩ (x_enter (Nat.le_of_ble_eq_true rfl) ?_)
      refine x_in rfl rfl rfl ?_
      refine x_br rfl rfl (fun c3 => ?_) (fun c3 => ?_)
      · have ec3 := (z_1 (0) (by decide)).mp c3
        refine x_in rfl rfl rfl ?_
        refine x_ret rfl rfl ?_
        refine x_in rfl rfl rfl ?_
        refine x_in rfl rfl rfl ?_
        refine x_top (show _ = Value.int ((-1 : Int32)) from congrArg Value.int (by decide)) ?_
        refine x_ret rfl rfl ?_
        refine x_in rfl rfl rfl ?_
        refine x_in rfl rfl rfl ?_
        refine x_in rfl rfl rfl ?_
        refine x_in rfl rfl rfl ?_
        refine x_top (show _ = Value.int ((1 : Int32)) from congrArg Value.int (by decide)) ?_
        refine x_in rfl rfl rfl ?_
        refine x_top (show _ = Value.int ((1 : Int32)) from congrArg Value.int (by decide)) ?_
        refine x_in rfl rfl rfl ?_
        refine x_in rfl rfl rfl ?_
        refine x_in rfl rfl rfl ?_
        refine x_in rfl rfl rfl ?_
        refine x_top (show _ = Value.int ((2 : Int32)) from congrArg Value.int (by decide)) ?_
        refine x_in rfl rfl rfl ?_
        refine x_top (show _ = Value.int ((2 : Int32)) from congrArg Value.int (by decide)) ?_
        refine x_in rfl rfl rfl ?_
        refine x_cV rfl rfl rfl rfl ⟨rfl, (Nat.le_of_ble_eq_true rfl), (Nat.le_of_ble_eq_true rfl)⟩ (x_enter (Nat.le_of_ble_eq_true rfl) ?_)
        refine x_in rfl rfl rfl ?_
        refine x_in rfl rfl rfl ?_
        refine x_top (show _ = Value.int ((0 : Int32)) from congrArg Value.int (by decide)) ?_
        refine x_in rfl rfl rfl ?_
        refine x_top (show _ = Value.int ((6 : Int32)) from congrArg Value.int (by decide)) ?_
        refine x_cS rfl (by decide) rfl rfl ⟨(Nat.le_of_ble_eq_true rfl), (Nat.le_of_ble_eq_true rfl)⟩ (x_enter (Nat.le_of_ble_eq_true rfl) ?_)
        refine x_in rfl rfl rfl ?_
        refine x_in rfl rfl rfl ?_
        refine x_bF rfl rfl (mt (z_1 (0) (by decide)).mp (by omega)) ?_
        refine x_in rfl rfl rfl ?_
        refine x_in rfl rfl rfl ?_
        refine x_bF rfl rfl (mt (z_2 (6) (by decide)).mp (by omega)) ?_
        refine x_in rfl rfl rfl ?_
        refine x_top (show _ = Value.int ((1 : Int32)) from congrArg Value.int (by decide)) ?_
        refine x_in rfl rfl rfl ?_
        refine x_ret rfl rfl ?_
        refine x_in rfl rfl rfl ?_
        refine x_in rfl rfl rfl ?_
        refine x_in rfl rfl rfl ?_
        refine x_cV rfl rfl rfl rfl ⟨rfl, (Nat.le_of_ble_eq_true rfl), (Nat.le_of_ble_eq_true rfl)⟩ (x_enter (Nat.le_of_ble_eq_true rfl) ?_)
        refine x_in rfl rfl rfl ?_
        refine x_in rfl rfl rfl ?_
        refine x_top (show _ = Value.int ((0 : Int32)) from congrArg Value.int (by decide)) ?_
        refine x_in rfl rfl rfl ?_
        refine x_in rfl rfl rfl ?_
        refine x_in rfl rfl rfl ?_
        refine x_top (show _ = Value.int ((0 : Int32)) from congrArg Value.int (by decide)) ?_
        refine x_in rfl rfl rfl ?_
        refine x_in rfl rfl rfl ?_
        refine x_top (show _ = Value.int ((1 : Int32)) from congrArg Value.int (by decide)) ?_
        refine x_in rfl rfl rfl ?_
        refine x_top (show _ = Value.int ((-1 : Int32)) from congrArg Value.int (by decide)) ?_
        refine x_cS rfl (by decide) rfl rfl ⟨(Nat.le_of_ble_eq_true rfl), (Nat.le_of_ble_eq_true rfl)⟩ (x_enter (Nat.le_of_ble_eq_true rfl) ?_)
        refine x_in rfl rfl rfl ?_
        refine x_in rfl rfl rfl ?_
        refine x_bT rfl rfl ((z_1 (0) (by decide)).mpr (by omega)) ?_
        refine x_in rfl rfl rfl ?_
        refine x_top (show _ = Value.int ((0 : Int32)) from congrArg Value.int (by decide)) ?_
        refine x_ret rfl rfl ?_
        refine x_ret rfl rfl ?_
        refine x_in rfl rfl rfl ?_
        refine x_in rfl rfl rfl ?_
        refine x_top (show _ = Value.int ((-1 : Int32)) from congrArg Value.int (by decide)) ?_
        refine x_ret rfl rfl ?_
        refine x_in rfl rfl rfl ?_
        refine x_iinc (z := (6 : Int32)) rfl rfl (by decide) ?_
        refine x_in rfl rfl rfl ?_
        refine x_in rfl rfl rfl ?_
        refine x_in rfl rfl rfl ?_
        refine x_in rfl rfl rfl ?_
        refine x_top (show _ = Value.int ((6 : Int32)) from rfl) ?_
        refine x_in rfl rfl rfl ?_
        refine x_top (show _ = Value.int ((6 : Int32)) from congrArg Value.int (by decide)) ?_
        refine x_in rfl rfl rfl ?_
        refine x_top (show _ = Value.int ((0 : Int32)) from congrArg Value.int (by decide)) ?_
        refine x_in rfl rfl rfl ?_
        refine x_in rfl rfl rfl ?_
        refine x_top (show _ = Value.int ((1 : Int32)) from congrArg Value.int (by decide)) ?_
        refine x_ret rfl rfl ?_
        exact ⟨rfl, by decide, by decide⟩
      · have ec3 := mt (z_1 (0) (by decide)).mpr c3
        refine x_in rfl rfl rfl ?_
        refine x_in rfl rfl rfl ?_
        refine x_in rfl rfl rfl ?_
        refine x_bT rfl rfl ((z_4 (0) (by decide)).mpr (by omega)) ?_
        refine x_in rfl rfl rfl ?_
        refine x_ret rfl rfl ?_
        refine x_in rfl rfl rfl ?_
        refine x_in rfl rfl rfl ?_
        refine x_top (show _ = Value.int ((-1 : Int32)) from congrArg Value.int (by decide)) ?_
        refine x_ret rfl rfl ?_
        refine x_in rfl rfl rfl ?_
        refine x_in rfl rfl rfl ?_
        refine x_in rfl rfl rfl ?_
        refine x_in rfl rfl rfl ?_
        refine x_top (show _ = Value.int ((1 : Int32)) from congrArg Value.int (by decide)) ?_
        refine x_in rfl rfl rfl ?_
        refine x_top (show _ = Value.int ((1 : Int32)) from congrArg Value.int (by decide)) ?_
        refine x_in rfl rfl rfl ?_
        refine x_in rfl rfl rfl ?_
        refine x_in rfl rfl rfl ?_
        refine x_in rfl rfl rfl ?_
        refine x_top (show _ = Value.int ((2 : Int32)) from congrArg Value.int (by decide)) ?_
        refine x_in rfl rfl rfl ?_
        refine x_top (show _ = Value.int ((2 : Int32)) from congrArg Value.int (by decide)) ?_
        refine x_in rfl rfl rfl ?_
        refine x_cV rfl rfl rfl rfl ⟨rfl, (Nat.le_of_ble_eq_true rfl), (Nat.le_of_ble_eq_true rfl)⟩ (x_enter (Nat.le_of_ble_eq_true rfl) ?_)
        refine x_in rfl rfl rfl ?_
        refine x_in rfl rfl rfl ?_
        refine x_top (show _ = Value.int ((0 : Int32)) from congrArg Value.int (by decide)) ?_
        refine x_in rfl rfl rfl ?_
        refine x_top (show _ = Value.int ((6 : Int32)) from congrArg Value.int (by decide)) ?_
        refine x_cS rfl (by decide) rfl rfl ⟨(Nat.le_of_ble_eq_true rfl), (Nat.le_of_ble_eq_true rfl)⟩ (x_enter (Nat.le_of_ble_eq_true rfl) ?_)
        refine x_in rfl rfl rfl ?_
        refine x_in rfl rfl rfl ?_
        refine x_bF rfl rfl (mt (z_1 (0) (by decide)).mp (by omega)) ?_
        refine x_in rfl rfl rfl ?_
        refine x_in rfl rfl rfl ?_
        refine x_bF rfl rfl (mt (z_2 (6) (by decide)).mp (by omega)) ?_
        refine x_in rfl rfl rfl ?_
        refine x_top (show _ = Value.int ((1 : Int32)) from congrArg Value.int (by decide)) ?_
        refine x_in rfl rfl rfl ?_
        refine x_ret rfl rfl ?_
        refine x_in rfl rfl rfl ?_
        refine x_in rfl rfl rfl ?_
        refine x_in rfl rfl rfl ?_
        refine x_cV rfl rfl rfl rfl ⟨rfl, (Nat.le_of_ble_eq_true rfl), (Nat.le_of_ble_eq_true rfl)⟩ (x_enter (Nat.le_of_ble_eq_true rfl) ?_)
        refine x_in rfl rfl rfl ?_
        refine x_in rfl rfl rfl ?_
        refine x_top (show _ = Value.int ((0 : Int32)) from congrArg Value.int (by decide)) ?_
        refine x_in rfl rfl rfl ?_
        refine x_in rfl rfl rfl ?_
        refine x_in rfl rfl rfl ?_
        refine x_top (show _ = Value.int ((0 : Int32)) from congrArg Value.int (by decide)) ?_
        refine x_in rfl rfl rfl ?_
        refine x_in rfl rfl rfl ?_
        refine x_top (show _ = Value.int ((1 : Int32)) from congrArg Value.int (by decide)) ?_
        refine x_in rfl rfl rfl ?_
        refine x_top (show _ = Value.int ((-1 : Int32)) from congrArg Value.int (by decide)) ?_
        refine x_cS rfl (by decide) rfl rfl ⟨(Nat.le_of_ble_eq_true rfl), (Nat.le_of_ble_eq_true rfl)⟩ (x_enter (Nat.le_of_ble_eq_true rfl) ?_)
        refine x_in rfl rfl rfl ?_
        refine x_in rfl rfl rfl ?_
        refine x_bF rfl rfl (mt (z_1 (0) (by decide)).mp (by omega)) ?_
        refine x_in rfl rfl rfl ?_
        refine x_in rfl rfl rfl ?_
        refine x_bT rfl rfl ((z_2 (-1) (by decide)).mpr (by omega)) ?_
        refine x_in rfl rfl rfl ?_
        refine x_top (show _ = Value.int ((0 : Int32)) from congrArg Value.int (by decide)) ?_
        refine x_ret rfl rfl ?_
        refine x_ret rfl rfl ?_
        refine x_in rfl rfl rfl ?_
        refine x_in rfl rfl rfl ?_
        refine x_top (show _ = Value.int ((-1 : Int32)) from congrArg Value.int (by decide)) ?_
        refine x_ret rfl rfl ?_
        refine x_in rfl rfl rfl ?_
        refine x_iinc (z := (6 : Int32)) rfl rfl (by decide) ?_
        refine x_in rfl rfl rfl ?_
        refine x_in rfl rfl rfl ?_
        refine x_in rfl rfl rfl ?_
        refine x_in rfl rfl rfl ?_
        refine x_top (show _ = Value.int ((6 : Int32)) from rfl) ?_
        refine x_in rfl rfl rfl ?_
        refine x_top (show _ = Value.int ((6 : Int32)) from congrArg Value.int (by decide)) ?_
        refine x_in rfl rfl rfl ?_
        refine x_top (show _ = Value.int ((0 : Int32)) from congrArg Value.int (by decide)) ?_
        refine x_in rfl rfl rfl ?_
        refine x_in rfl rfl rfl ?_
        refine x_top (show _ = Value.int ((1 : Int32)) from congrArg Value.int (by decide)) ?_
        refine x_ret rfl rfl ?_
        exact ⟨rfl, by decide, by decide⟩
set_option maxRecDepth 100000 in
set_option maxHeartbeats 4000000 in
theorem c_5 (n : Nat) (c a1 a2 a3 a4 a5 : Int32) : x_E (m_X [c, a1, a2, a3, a4, a5]) 60 181 193 11164 (n + 300) 351 [(3, .int 0), (2, .ref 170), (1, .ref 0), (0, .ref 1000000)] [] m_h0 lK := by
  refine x_in rfl rfl rfl ?_
  refine x_in rfl rfl rfl ?_
  refine x_in rfl rfl rfl ?_
  refine x_in rfl rfl rfl ?_
  refine x_top (show _ = Value.int ((1 : Int32)) from congrArg Value.int (by decide)) ?_
  refine x_in rfl rfl rfl ?_
  refine x_top (show _ = Value.int ((1 : Int32)) from congrArg Value.int (by decide)) ?_
  refine x_in rfl rfl rfl ?_
  refine x_in rfl rfl rfl ?_
  refine x_in rfl rfl rfl ?_
  refine x_in rfl rfl rfl ?_
  refine x_top (show _ = Value.int ((2 : Int32)) from congrArg Value.int (by decide)) ?_
  refine x_in rfl rfl rfl ?_
  refine x_top (show _ = Value.int ((2 : Int32)) from congrArg Value.int (by decide)) ?_
  refine x_in rfl rfl rfl ?_
  refine x_in rfl rfl rfl ?_
  refine x_in rfl rfl rfl ?_
  refine x_in rfl rfl rfl ?_
  refine x_top (show _ = Value.int ((3 : Int32)) from congrArg Value.int (by decide)) ?_
  refine x_in rfl rfl rfl ?_
  refine x_top (show _ = Value.int ((3 : Int32)) from congrArg Value.int (by decide)) ?_
  refine x_in rfl rfl rfl ?_
  refine x_in rfl rfl rfl ?_
  refine x_in rfl rfl rfl ?_
  refine x_in rfl rfl rfl ?_
  refine x_top (show _ = Value.int ((4 : Int32)) from congrArg Value.int (by decide)) ?_
  refine x_in rfl rfl rfl ?_
  refine x_top (show _ = Value.int ((4 : Int32)) from congrArg Value.int (by decide)) ?_
  refine x_in rfl rfl rfl ?_
  refine x_in rfl rfl rfl ?_
  refine x_in rfl rfl rfl ?_
  refine x_in rfl rfl rfl ?_
  refine x_top (show _ = Value.int ((5 : Int32)) from congrArg Value.int (by decide)) ?_
  refine x_in rfl rfl rfl ?_
  refine x_top (show _ = Value.int ((5 : Int32)) from congrArg Value.int (by decide)) ?_
  refine x_in rfl rfl rfl ?_
  refine x_cV rfl rfl rfl rfl ⟨rfl, (Nat.le_of_ble_eq_true rfl), (Nat.le_of_ble_eq_true rfl)⟩ (x_enter (Nat.le_of_ble_eq_true rfl) ?_)
  refine x_in rfl rfl rfl ?_
  refine x_in rfl rfl rfl ?_
  refine x_in rfl rfl rfl ?_
  refine x_cV rfl rfl rfl rfl ⟨rfl, (Nat.le_of_ble_eq_true rfl), (Nat.le_of_ble_eq_true rfl)⟩ (x_enter (Nat.le_of_ble_eq_true rfl) ?_)
  refine x_in rfl rfl rfl ?_
  refine x_br rfl rfl (fun c1 => ?_) (fun c1 => ?_)
  · have ec1 := (z_1 (0) (by decide)).mp c1
    refine x_in rfl rfl rfl ?_
    refine x_ret rfl rfl ?_
    refine x_in rfl rfl rfl ?_
    refine x_in rfl rfl rfl ?_
    refine x_in rfl rfl rfl ?_
    refine x_in rfl rfl rfl ?_
    refine x_top (show _ = Value.int ((-1 : Int32)) from congrArg Value.int (by decide)) ?_
    refine x_ret rfl rfl ?_
    refine x_in rfl rfl rfl ?_
    refine x_in rfl rfl rfl ?_
    refine x_in rfl rfl rfl ?_
    refine x_in rfl rfl rfl ?_
    refine x_top (show _ = Value.int ((1 : Int32)) from congrArg Value.int (by decide)) ?_
    refine x_in rfl rfl rfl ?_
    refine x_top (show _ = Value.int ((1 : Int32)) from congrArg Value.int (by decide)) ?_
    refine x_in rfl rfl rfl ?_
    refine x_in rfl rfl rfl ?_
    refine x_in rfl rfl rfl ?_
    refine x_in rfl rfl rfl ?_
    refine x_top (show _ = Value.int ((2 : Int32)) from congrArg Value.int (by decide)) ?_
    refine x_in rfl rfl rfl ?_
    refine x_top (show _ = Value.int ((2 : Int32)) from congrArg Value.int (by decide)) ?_
    refine x_in rfl rfl rfl ?_
    refine x_in rfl rfl rfl ?_
    refine x_in rfl rfl rfl ?_
    refine x_in rfl rfl rfl ?_
    refine x_top (show _ = Value.int ((3 : Int32)) from congrArg Value.int (by decide)) ?_
    refine x_in rfl rfl rfl ?_
    refine x_top (show _ = Value.int ((3 : Int32)) from congrArg Value.int (by decide)) ?_
    refine x_in rfl rfl rfl ?_
    refine x_in rfl rfl rfl ?_
    refine x_in rfl rfl rfl ?_
    refine x_in rfl rfl rfl ?_
    refine x_top (show _ = Value.int ((4 : Int32)) from congrArg Value.int (by decide)) ?_
    refine x_in rfl rfl rfl ?_
    refine x_top (show _ = Value.int ((4 : Int32)) from congrArg Value.int (by decide)) ?_
    refine x_in rfl rfl rfl ?_
    refine x_in rfl rfl rfl ?_
    refine x_in rfl rfl rfl ?_
    refine x_in rfl rfl rfl ?_
    refine x_top (show _ = Value.int ((5 : Int32)) from congrArg Value.int (by decide)) ?_
    refine x_in rfl rfl rfl ?_
    refine x_top (show _ = Value.int ((5 : Int32)) from congrArg Value.int (by decide)) ?_
    refine x_in rfl rfl rfl ?_
    refine x_cV rfl rfl rfl rfl ⟨rfl, (Nat.le_of_ble_eq_true rfl), (Nat.le_of_ble_eq_true rfl)⟩ (x_enter (Nat.le_of_ble_eq_true rfl) ?_)
    refine x_in rfl rfl rfl ?_
    refine x_in rfl rfl rfl ?_
    refine x_cV rfl rfl rfl rfl ⟨rfl, (Nat.le_of_ble_eq_true rfl), (Nat.le_of_ble_eq_true rfl)⟩ (x_enter (Nat.le_of_ble_eq_true rfl) ?_)
    refine x_in rfl rfl rfl ?_
    refine x_in rfl rfl rfl ?_
    refine x_top (show _ = Value.int ((0 : Int32)) from congrArg Value.int (by decide)) ?_
    refine x_in rfl rfl rfl ?_
    refine x_in rfl rfl rfl ?_
    refine x_in rfl rfl rfl ?_
    refine x_top (show _ = Value.int ((1 : Int32)) from congrArg Value.int (by decide)) ?_
    refine x_in rfl rfl rfl ?_
    refine x_in rfl rfl rfl ?_
    refine x_top (show _ = Value.int ((1 : Int32)) from congrArg Value.int (by decide)) ?_
    refine x_in rfl rfl rfl ?_
    refine x_top (show _ = Value.int ((-1 : Int32)) from congrArg Value.int (by decide)) ?_
    refine x_cS rfl (by decide) rfl rfl ⟨(Nat.le_of_ble_eq_true rfl), (Nat.le_of_ble_eq_true rfl)⟩ (x_enter (Nat.le_of_ble_eq_true rfl) ?_)
    refine x_in rfl rfl rfl ?_
    refine x_in rfl rfl rfl ?_
    refine x_bT rfl rfl ((z_1 (0) (by decide)).mpr (by omega)) ?_
    refine x_in rfl rfl rfl ?_
    refine x_top (show _ = Value.int ((0 : Int32)) from congrArg Value.int (by decide)) ?_
    refine x_ret rfl rfl ?_
    refine x_ret rfl rfl ?_
    refine x_in rfl rfl rfl ?_
    refine x_in rfl rfl rfl ?_
    refine x_top (show _ = Value.int ((-1 : Int32)) from congrArg Value.int (by decide)) ?_
    refine x_ret rfl rfl ?_
    refine x_in rfl rfl rfl ?_
    refine x_iinc (z := (6 : Int32)) rfl rfl (by decide) ?_
    refine x_in rfl rfl rfl ?_
    refine x_in rfl rfl rfl ?_
    refine x_in rfl rfl rfl ?_
    refine x_in rfl rfl rfl ?_
    refine x_top (show _ = Value.int ((6 : Int32)) from rfl) ?_
    refine x_in rfl rfl rfl ?_
    refine x_top (show _ = Value.int ((6 : Int32)) from congrArg Value.int (by decide)) ?_
    refine x_in rfl rfl rfl ?_
    refine x_top (show _ = Value.int ((0 : Int32)) from congrArg Value.int (by decide)) ?_
    refine x_in rfl rfl rfl ?_
    refine x_in rfl rfl rfl ?_
    refine x_top (show _ = Value.int ((1 : Int32)) from congrArg Value.int (by decide)) ?_
    refine x_ret rfl rfl ?_
    exact ⟨rfl, by decide, by decide⟩
  · have ec1 := mt (z_1 (0) (by decide)).mpr c1
    refine x_in rfl rfl rfl ?_
    refine x_in rfl rfl rfl ?_
    refine x_in rfl rfl rfl ?_
    refine x_bT rfl rfl ((z_4 (0) (by decide)).mpr (by omega)) ?_
    refine x_in rfl rfl rfl ?_
    refine x_ret rfl rfl ?_
    refine x_in rfl rfl rfl ?_
    refine x_in rfl rfl rfl ?_
    refine x_in rfl rfl rfl ?_
    refine x_in rfl rfl rfl ?_
    refine x_top (show _ = Value.int ((-1 : Int32)) from congrArg Value.int (by decide)) ?_
    refine x_ret rfl rfl ?_
    refine x_in rfl rfl rfl ?_
    refine x_in rfl rfl rfl ?_
    refine x_in rfl rfl rfl ?_
    refine x_in rfl rfl rfl ?_
    refine x_top (show _ = Value.int ((1 : Int32)) from congrArg Value.int (by decide)) ?_
    refine x_in rfl rfl rfl ?_
    refine x_top (show _ = Value.int ((1 : Int32)) from congrArg Value.int (by decide)) ?_
    refine x_in rfl rfl rfl ?_
    refine x_in rfl rfl rfl ?_
    refine x_in rfl rfl rfl ?_
    refine x_in rfl rfl rfl ?_
    refine x_top (show _ = Value.int ((2 : Int32)) from congrArg Value.int (by decide)) ?_
    refine x_in rfl rfl rfl ?_
    refine x_top (show _ = Value.int ((2 : Int32)) from congrArg Value.int (by decide)) ?_
    refine x_in rfl rfl rfl ?_
    refine x_in rfl rfl rfl ?_
    refine x_in rfl rfl rfl ?_
    refine x_in rfl rfl rfl ?_
    refine x_top (show _ = Value.int ((3 : Int32)) from congrArg Value.int (by decide)) ?_
    refine x_in rfl rfl rfl ?_
    refine x_top (show _ = Value.int ((3 : Int32)) from congrArg Value.int (by decide)) ?_
    refine x_in rfl rfl rfl ?_
    refine x_in rfl rfl rfl ?_
    refine x_in rfl rfl rfl ?_
    refine x_in rfl rfl rfl ?_
    refine x_top (show _ = Value.int ((4 : Int32)) from congrArg Value.int (by decide)) ?_
    refine x_in rfl rfl rfl ?_
    refine x_top (show _ = Value.int ((4 : Int32)) from congrArg Value.int (by decide)) ?_
    refine x_in rfl rfl rfl ?_
    refine x_in rfl rfl rfl ?_
    refine x_in rfl rfl rfl ?_
    refine x_in rfl rfl rfl ?_
    refine x_top (show _ = Value.int ((5 : Int32)) from congrArg Value.int (by decide)) ?_
    refine x_in rfl rfl rfl ?_
    refine x_top (show _ = Value.int ((5 : Int32)) from congrArg Value.int (by decide)) ?_
    refine x_in rfl rfl rfl ?_
    refine x_cV rfl rfl rfl rfl ⟨rfl, (Nat.le_of_ble_eq_true rfl), (Nat.le_of_ble_eq_true rfl)⟩ (x_enter (Nat.le_of_ble_eq_true rfl) ?_)
    refine x_in rfl rfl rfl ?_
    refine x_in rfl rfl rfl ?_
    refine x_cV rfl rfl rfl rfl ⟨rfl, (Nat.le_of_ble_eq_true rfl), (Nat.le_of_ble_eq_true rfl)⟩ (x_enter (Nat.le_of_ble_eq_true rfl) ?_)
    refine x_in rfl rfl rfl ?_
    refine x_in rfl rfl rfl ?_
    refine x_top (show _ = Value.int ((0 : Int32)) from congrArg Value.int (by decide)) ?_
    refine x_in rfl rfl rfl ?_
    refine x_in rfl rfl rfl ?_
    refine x_in rfl rfl rfl ?_
    refine x_top (show _ = Value.int ((1 : Int32)) from congrArg Value.int (by decide)) ?_
    refine x_in rfl rfl rfl ?_
    refine x_in rfl rfl rfl ?_
    refine x_top (show _ = Value.int ((1 : Int32)) from congrArg Value.int (by decide)) ?_
    refine x_in rfl rfl rfl ?_
    refine x_top (show _ = Value.int ((-1 : Int32)) from congrArg Value.int (by decide)) ?_
    refine x_cS rfl (by decide) rfl rfl ⟨(Nat.le_of_ble_eq_true rfl), (Nat.le_of_ble_eq_true rfl)⟩ (x_enter (Nat.le_of_ble_eq_true rfl) ?_)
    refine x_in rfl rfl rfl ?_
    refine x_in rfl rfl rfl ?_
    refine x_bF rfl rfl (mt (z_1 (0) (by decide)).mp (by omega)) ?_
    refine x_in rfl rfl rfl ?_
    refine x_in rfl rfl rfl ?_
    refine x_bT rfl rfl ((z_2 (-1) (by decide)).mpr (by omega)) ?_
    refine x_in rfl rfl rfl ?_
    refine x_top (show _ = Value.int ((0 : Int32)) from congrArg Value.int (by decide)) ?_
    refine x_ret rfl rfl ?_
    refine x_ret rfl rfl ?_
    refine x_in rfl rfl rfl ?_
    refine x_in rfl rfl rfl ?_
    refine x_top (show _ = Value.int ((-1 : Int32)) from congrArg Value.int (by decide)) ?_
    refine x_ret rfl rfl ?_
    refine x_in rfl rfl rfl ?_
    refine x_iinc (z := (6 : Int32)) rfl rfl (by decide) ?_
    refine x_in rfl rfl rfl ?_
    refine x_in rfl rfl rfl ?_
    refine x_in rfl rfl rfl ?_
    refine x_in rfl rfl rfl ?_
    refine x_top (show _ = Value.int ((6 : Int32)) from rfl) ?_
    refine x_in rfl rfl rfl ?_
    refine x_top (show _ = Value.int ((6 : Int32)) from congrArg Value.int (by decide)) ?_
    refine x_in rfl rfl rfl ?_
    refine x_top (show _ = Value.int ((0 : Int32)) from congrArg Value.int (by decide)) ?_
    refine x_in rfl rfl rfl ?_
    refine x_in rfl rfl rfl ?_
    refine x_top (show _ = Value.int ((1 : Int32)) from congrArg Value.int (by decide)) ?_
    refine x_ret rfl rfl ?_
    exact ⟨rfl, by decide, by decide⟩
set_option maxRecDepth 100000 in
set_option maxHeartbeats 4000000 in
theorem c_6 (n : Nat) (c a1 a2 a3 a4 a5 : Int32) : x_E (m_X [c, a1, a2, a3, a4, a5]) 60 181 193 11164 (n + 300) 414 [(3, .int 0), (2, .ref 170), (1, .ref 0), (0, .ref 1000000)] [] m_h0 lK := by
  refine x_in rfl rfl rfl ?_
  refine x_in rfl rfl rfl ?_
  refine x_in rfl rfl rfl ?_
  refine x_in rfl rfl rfl ?_
  refine x_top (show _ = Value.int ((1 : Int32)) from congrArg Value.int (by decide)) ?_
  refine x_in rfl rfl rfl ?_
  refine x_top (show _ = Value.int ((1 : Int32)) from congrArg Value.int (by decide)) ?_
  refine x_in rfl rfl rfl ?_
  refine x_in rfl rfl rfl ?_
  refine x_in rfl rfl rfl ?_
  refine x_in rfl rfl rfl ?_
  refine x_top (show _ = Value.int ((2 : Int32)) from congrArg Value.int (by decide)) ?_
  refine x_in rfl rfl rfl ?_
  refine x_top (show _ = Value.int ((2 : Int32)) from congrArg Value.int (by decide)) ?_
  refine x_in rfl rfl rfl ?_
  refine x_in rfl rfl rfl ?_
  refine x_in rfl rfl rfl ?_
  refine x_in rfl rfl rfl ?_
  refine x_top (show _ = Value.int ((3 : Int32)) from congrArg Value.int (by decide)) ?_
  refine x_in rfl rfl rfl ?_
  refine x_top (show _ = Value.int ((3 : Int32)) from congrArg Value.int (by decide)) ?_
  refine x_in rfl rfl rfl ?_
  refine x_in rfl rfl rfl ?_
  refine x_in rfl rfl rfl ?_
  refine x_in rfl rfl rfl ?_
  refine x_top (show _ = Value.int ((4 : Int32)) from congrArg Value.int (by decide)) ?_
  refine x_in rfl rfl rfl ?_
  refine x_top (show _ = Value.int ((4 : Int32)) from congrArg Value.int (by decide)) ?_
  refine x_in rfl rfl rfl ?_
  refine x_cV rfl rfl rfl rfl ⟨rfl, (Nat.le_of_ble_eq_true rfl), (Nat.le_of_ble_eq_true rfl)⟩ (x_enter (Nat.le_of_ble_eq_true rfl) ?_)
  refine x_in rfl rfl rfl ?_
  refine x_in rfl rfl rfl ?_
  refine x_in rfl rfl rfl ?_
  refine x_cV rfl rfl rfl rfl ⟨rfl, (Nat.le_of_ble_eq_true rfl), (Nat.le_of_ble_eq_true rfl)⟩ (x_enter (Nat.le_of_ble_eq_true rfl) ?_)
  refine x_in rfl rfl rfl ?_
  refine x_br rfl rfl (fun c1 => ?_) (fun c1 => ?_)
  · have ec1 := (z_1 (0) (by decide)).mp c1
    refine x_in rfl rfl rfl ?_
    refine x_ret rfl rfl ?_
    refine x_in rfl rfl rfl ?_
    refine x_in rfl rfl rfl ?_
    refine x_in rfl rfl rfl ?_
    refine x_in rfl rfl rfl ?_
    refine x_top (show _ = Value.int ((-2147483648 : Int32)) from congrArg Value.int (by decide)) ?_
    refine x_ret rfl rfl ?_
    refine x_in rfl rfl rfl ?_
    refine x_in rfl rfl rfl ?_
    refine x_in rfl rfl rfl ?_
    refine x_in rfl rfl rfl ?_
    refine x_top (show _ = Value.int ((1 : Int32)) from congrArg Value.int (by decide)) ?_
    refine x_in rfl rfl rfl ?_
    refine x_top (show _ = Value.int ((1 : Int32)) from congrArg Value.int (by decide)) ?_
    refine x_in rfl rfl rfl ?_
    refine x_in rfl rfl rfl ?_
    refine x_in rfl rfl rfl ?_
    refine x_in rfl rfl rfl ?_
    refine x_top (show _ = Value.int ((2 : Int32)) from congrArg Value.int (by decide)) ?_
    refine x_in rfl rfl rfl ?_
    refine x_top (show _ = Value.int ((2 : Int32)) from congrArg Value.int (by decide)) ?_
    refine x_in rfl rfl rfl ?_
    refine x_in rfl rfl rfl ?_
    refine x_in rfl rfl rfl ?_
    refine x_in rfl rfl rfl ?_
    refine x_top (show _ = Value.int ((3 : Int32)) from congrArg Value.int (by decide)) ?_
    refine x_in rfl rfl rfl ?_
    refine x_top (show _ = Value.int ((3 : Int32)) from congrArg Value.int (by decide)) ?_
    refine x_in rfl rfl rfl ?_
    refine x_in rfl rfl rfl ?_
    refine x_in rfl rfl rfl ?_
    refine x_in rfl rfl rfl ?_
    refine x_top (show _ = Value.int ((4 : Int32)) from congrArg Value.int (by decide)) ?_
    refine x_in rfl rfl rfl ?_
    refine x_top (show _ = Value.int ((4 : Int32)) from congrArg Value.int (by decide)) ?_
    refine x_in rfl rfl rfl ?_
    refine x_cV rfl rfl rfl rfl ⟨rfl, (Nat.le_of_ble_eq_true rfl), (Nat.le_of_ble_eq_true rfl)⟩ (x_enter (Nat.le_of_ble_eq_true rfl) ?_)
    refine x_in rfl rfl rfl ?_
    refine x_in rfl rfl rfl ?_
    refine x_cV rfl rfl rfl rfl ⟨rfl, (Nat.le_of_ble_eq_true rfl), (Nat.le_of_ble_eq_true rfl)⟩ (x_enter (Nat.le_of_ble_eq_true rfl) ?_)
    refine x_in rfl rfl rfl ?_
    refine x_in rfl rfl rfl ?_
    refine x_top (show _ = Value.int ((0 : Int32)) from congrArg Value.int (by decide)) ?_
    refine x_in rfl rfl rfl ?_
    refine x_in rfl rfl rfl ?_
    refine x_in rfl rfl rfl ?_
    refine x_top (show _ = Value.int ((1 : Int32)) from congrArg Value.int (by decide)) ?_
    refine x_in rfl rfl rfl ?_
    refine x_in rfl rfl rfl ?_
    refine x_top (show _ = Value.int ((1 : Int32)) from congrArg Value.int (by decide)) ?_
    refine x_in rfl rfl rfl ?_
    refine x_top (show _ = Value.int ((-1 : Int32)) from congrArg Value.int (by decide)) ?_
    refine x_cS rfl (by decide) rfl rfl ⟨(Nat.le_of_ble_eq_true rfl), (Nat.le_of_ble_eq_true rfl)⟩ (x_enter (Nat.le_of_ble_eq_true rfl) ?_)
    refine x_in rfl rfl rfl ?_
    refine x_in rfl rfl rfl ?_
    refine x_bT rfl rfl ((z_1 (0) (by decide)).mpr (by omega)) ?_
    refine x_in rfl rfl rfl ?_
    refine x_top (show _ = Value.int ((0 : Int32)) from congrArg Value.int (by decide)) ?_
    refine x_ret rfl rfl ?_
    refine x_ret rfl rfl ?_
    refine x_in rfl rfl rfl ?_
    refine x_in rfl rfl rfl ?_
    refine x_top (show _ = Value.int ((-2147483648 : Int32)) from congrArg Value.int (by decide)) ?_
    refine x_ret rfl rfl ?_
    refine x_in rfl rfl rfl ?_
    refine x_iinc (z := (6 : Int32)) rfl rfl (by decide) ?_
    refine x_in rfl rfl rfl ?_
    refine x_in rfl rfl rfl ?_
    refine x_in rfl rfl rfl ?_
    refine x_in rfl rfl rfl ?_
    refine x_top (show _ = Value.int ((6 : Int32)) from rfl) ?_
    refine x_in rfl rfl rfl ?_
    refine x_top (show _ = Value.int ((6 : Int32)) from congrArg Value.int (by decide)) ?_
    refine x_in rfl rfl rfl ?_
    refine x_top (show _ = Value.int ((0 : Int32)) from congrArg Value.int (by decide)) ?_
    refine x_in rfl rfl rfl ?_
    refine x_in rfl rfl rfl ?_
    refine x_top (show _ = Value.int ((1 : Int32)) from congrArg Value.int (by decide)) ?_
    refine x_ret rfl rfl ?_
    exact ⟨rfl, by decide, by decide⟩
  · have ec1 := mt (z_1 (0) (by decide)).mpr c1
    refine x_in rfl rfl rfl ?_
    refine x_in rfl rfl rfl ?_
    refine x_in rfl rfl rfl ?_
    refine x_bT rfl rfl ((z_4 (0) (by decide)).mpr (by omega)) ?_
    refine x_in rfl rfl rfl ?_
    refine x_ret rfl rfl ?_
    refine x_in rfl rfl rfl ?_
    refine x_in rfl rfl rfl ?_
    refine x_in rfl rfl rfl ?_
    refine x_in rfl rfl rfl ?_
    refine x_top (show _ = Value.int ((-2147483648 : Int32)) from congrArg Value.int (by decide)) ?_
    refine x_ret rfl rfl ?_
    refine x_in rfl rfl rfl ?_
    refine x_in rfl rfl rfl ?_
    refine x_in rfl rfl rfl ?_
    refine x_in rfl rfl rfl ?_
    refine x_top (show _ = Value.int ((1 : Int32)) from congrArg Value.int (by decide)) ?_
    refine x_in rfl rfl rfl ?_
    refine x_top (show _ = Value.int ((1 : Int32)) from congrArg Value.int (by decide)) ?_
    refine x_in rfl rfl rfl ?_
    refine x_in rfl rfl rfl ?_
    refine x_in rfl rfl rfl ?_
    refine x_in rfl rfl rfl ?_
    refine x_top (show _ = Value.int ((2 : Int32)) from congrArg Value.int (by decide)) ?_
    refine x_in rfl rfl rfl ?_
    refine x_top (show _ = Value.int ((2 : Int32)) from congrArg Value.int (by decide)) ?_
    refine x_in rfl rfl rfl ?_
    refine x_in rfl rfl rfl ?_
    refine x_in rfl rfl rfl ?_
    refine x_in rfl rfl rfl ?_
    refine x_top (show _ = Value.int ((3 : Int32)) from congrArg Value.int (by decide)) ?_
    refine x_in rfl rfl rfl ?_
    refine x_top (show _ = Value.int ((3 : Int32)) from congrArg Value.int (by decide)) ?_
    refine x_in rfl rfl rfl ?_
    refine x_in rfl rfl rfl ?_
    refine x_in rfl rfl rfl ?_
    refine x_in rfl rfl rfl ?_
    refine x_top (show _ = Value.int ((4 : Int32)) from congrArg Value.int (by decide)) ?_
    refine x_in rfl rfl rfl ?_
    refine x_top (show _ = Value.int ((4 : Int32)) from congrArg Value.int (by decide)) ?_
    refine x_in rfl rfl rfl ?_
    refine x_cV rfl rfl rfl rfl ⟨rfl, (Nat.le_of_ble_eq_true rfl), (Nat.le_of_ble_eq_true rfl)⟩ (x_enter (Nat.le_of_ble_eq_true rfl) ?_)
    refine x_in rfl rfl rfl ?_
    refine x_in rfl rfl rfl ?_
    refine x_cV rfl rfl rfl rfl ⟨rfl, (Nat.le_of_ble_eq_true rfl), (Nat.le_of_ble_eq_true rfl)⟩ (x_enter (Nat.le_of_ble_eq_true rfl) ?_)
    refine x_in rfl rfl rfl ?_
    refine x_in rfl rfl rfl ?_
    refine x_top (show _ = Value.int ((0 : Int32)) from congrArg Value.int (by decide)) ?_
    refine x_in rfl rfl rfl ?_
    refine x_in rfl rfl rfl ?_
    refine x_in rfl rfl rfl ?_
    refine x_top (show _ = Value.int ((1 : Int32)) from congrArg Value.int (by decide)) ?_
    refine x_in rfl rfl rfl ?_
    refine x_in rfl rfl rfl ?_
    refine x_top (show _ = Value.int ((1 : Int32)) from congrArg Value.int (by decide)) ?_
    refine x_in rfl rfl rfl ?_
    refine x_top (show _ = Value.int ((-1 : Int32)) from congrArg Value.int (by decide)) ?_
    refine x_cS rfl (by decide) rfl rfl ⟨(Nat.le_of_ble_eq_true rfl), (Nat.le_of_ble_eq_true rfl)⟩ (x_enter (Nat.le_of_ble_eq_true rfl) ?_)
    refine x_in rfl rfl rfl ?_
    refine x_in rfl rfl rfl ?_
    refine x_bF rfl rfl (mt (z_1 (0) (by decide)).mp (by omega)) ?_
    refine x_in rfl rfl rfl ?_
    refine x_in rfl rfl rfl ?_
    refine x_bT rfl rfl ((z_2 (-1) (by decide)).mpr (by omega)) ?_
    refine x_in rfl rfl rfl ?_
    refine x_top (show _ = Value.int ((0 : Int32)) from congrArg Value.int (by decide)) ?_
    refine x_ret rfl rfl ?_
    refine x_ret rfl rfl ?_
    refine x_in rfl rfl rfl ?_
    refine x_in rfl rfl rfl ?_
    refine x_top (show _ = Value.int ((-2147483648 : Int32)) from congrArg Value.int (by decide)) ?_
    refine x_ret rfl rfl ?_
    refine x_in rfl rfl rfl ?_
    refine x_iinc (z := (6 : Int32)) rfl rfl (by decide) ?_
    refine x_in rfl rfl rfl ?_
    refine x_in rfl rfl rfl ?_
    refine x_in rfl rfl rfl ?_
    refine x_in rfl rfl rfl ?_
    refine x_top (show _ = Value.int ((6 : Int32)) from rfl) ?_
    refine x_in rfl rfl rfl ?_
    refine x_top (show _ = Value.int ((6 : Int32)) from congrArg Value.int (by decide)) ?_
    refine x_in rfl rfl rfl ?_
    refine x_top (show _ = Value.int ((0 : Int32)) from congrArg Value.int (by decide)) ?_
    refine x_in rfl rfl rfl ?_
    refine x_in rfl rfl rfl ?_
    refine x_top (show _ = Value.int ((1 : Int32)) from congrArg Value.int (by decide)) ?_
    refine x_ret rfl rfl ?_
    exact ⟨rfl, by decide, by decide⟩
set_option maxRecDepth 100000 in
set_option maxHeartbeats 4000000 in
theorem c_7 (n : Nat) (c a1 a2 a3 a4 a5 : Int32) : x_E (m_X [c, a1, a2, a3, a4, a5]) 60 181 193 11164 (n + 300) 467 [(3, .int 0), (2, .ref 170), (1, .ref 0), (0, .ref 1000000)] [] m_h0 lK := by
  refine x_in rfl rfl rfl ?_
  refine x_in rfl rfl rfl ?_
  refine x_in rfl rfl rfl ?_
  refine x_in rfl rfl rfl ?_
  refine x_top (show _ = Value.int ((1 : Int32)) from congrArg Value.int (by decide)) ?_
  refine x_in rfl rfl rfl ?_
  refine x_top (show _ = Value.int ((1 : Int32)) from congrArg Value.int (by decide)) ?_
  refine x_in rfl rfl rfl ?_
  refine x_cV rfl rfl rfl rfl ⟨rfl, (Nat.le_of_ble_eq_true rfl), (Nat.le_of_ble_eq_true rfl)⟩ (x_enter (Nat.le_of_ble_eq_true rfl) ?_)
  refine x_in rfl rfl rfl ?_
  refine x_in rfl rfl rfl ?_
  refine x_in rfl rfl rfl ?_
  refine x_cV rfl rfl rfl rfl ⟨rfl, (Nat.le_of_ble_eq_true rfl), (Nat.le_of_ble_eq_true rfl)⟩ (x_enter (Nat.le_of_ble_eq_true rfl) ?_)
  refine x_in rfl rfl rfl ?_
  refine x_br rfl rfl (fun c1 => ?_) (fun c1 => ?_)
  · have ec1 := (z_1 (0) (by decide)).mp c1
    refine x_in rfl rfl rfl ?_
    refine x_ret rfl rfl ?_
    refine x_in rfl rfl rfl ?_
    refine x_in rfl rfl rfl ?_
    refine x_in rfl rfl rfl ?_
    refine x_in rfl rfl rfl ?_
    refine x_top (show _ = Value.int ((-1 : Int32)) from congrArg Value.int (by decide)) ?_
    refine x_in rfl rfl rfl ?_
    refine x_ret rfl rfl ?_
    refine x_in rfl rfl rfl ?_
    refine x_in rfl rfl rfl ?_
    refine x_in rfl rfl rfl ?_
    refine x_in rfl rfl rfl ?_
    refine x_top (show _ = Value.int ((1 : Int32)) from congrArg Value.int (by decide)) ?_
    refine x_in rfl rfl rfl ?_
    refine x_top (show _ = Value.int ((1 : Int32)) from congrArg Value.int (by decide)) ?_
    refine x_in rfl rfl rfl ?_
    refine x_cV rfl rfl rfl rfl ⟨rfl, (Nat.le_of_ble_eq_true rfl), (Nat.le_of_ble_eq_true rfl)⟩ (x_enter (Nat.le_of_ble_eq_true rfl) ?_)
    refine x_in rfl rfl rfl ?_
    refine x_in rfl rfl rfl ?_
    refine x_cV rfl rfl rfl rfl ⟨rfl, (Nat.le_of_ble_eq_true rfl), (Nat.le_of_ble_eq_true rfl)⟩ (x_enter (Nat.le_of_ble_eq_true rfl) ?_)
    refine x_in rfl rfl rfl ?_
    refine x_in rfl rfl rfl ?_
    refine x_top (show _ = Value.int ((0 : Int32)) from congrArg Value.int (by decide)) ?_
    refine x_in rfl rfl rfl ?_
    refine x_in rfl rfl rfl ?_
    refine x_in rfl rfl rfl ?_
    refine x_top (show _ = Value.int ((1 : Int32)) from congrArg Value.int (by decide)) ?_
    refine x_in rfl rfl rfl ?_
    refine x_in rfl rfl rfl ?_
    refine x_top (show _ = Value.int ((1 : Int32)) from congrArg Value.int (by decide)) ?_
    refine x_in rfl rfl rfl ?_
    refine x_top (show _ = Value.int ((-1 : Int32)) from congrArg Value.int (by decide)) ?_
    refine x_cS rfl (by decide) rfl rfl ⟨(Nat.le_of_ble_eq_true rfl), (Nat.le_of_ble_eq_true rfl)⟩ (x_enter (Nat.le_of_ble_eq_true rfl) ?_)
    refine x_in rfl rfl rfl ?_
    refine x_in rfl rfl rfl ?_
    refine x_bT rfl rfl ((z_1 (0) (by decide)).mpr (by omega)) ?_
    refine x_in rfl rfl rfl ?_
    refine x_top (show _ = Value.int ((0 : Int32)) from congrArg Value.int (by decide)) ?_
    refine x_ret rfl rfl ?_
    refine x_ret rfl rfl ?_
    refine x_in rfl rfl rfl ?_
    refine x_in rfl rfl rfl ?_
    refine x_top (show _ = Value.int ((-1 : Int32)) from congrArg Value.int (by decide)) ?_
    refine x_ret rfl rfl ?_
    refine x_in rfl rfl rfl ?_
    refine x_iinc (z := (6 : Int32)) rfl rfl (by decide) ?_
    refine x_in rfl rfl rfl ?_
    refine x_in rfl rfl rfl ?_
    refine x_in rfl rfl rfl ?_
    refine x_in rfl rfl rfl ?_
    refine x_top (show _ = Value.int ((6 : Int32)) from rfl) ?_
    refine x_in rfl rfl rfl ?_
    refine x_top (show _ = Value.int ((6 : Int32)) from congrArg Value.int (by decide)) ?_
    refine x_in rfl rfl rfl ?_
    refine x_top (show _ = Value.int ((0 : Int32)) from congrArg Value.int (by decide)) ?_
    refine x_in rfl rfl rfl ?_
    refine x_in rfl rfl rfl ?_
    refine x_top (show _ = Value.int ((1 : Int32)) from congrArg Value.int (by decide)) ?_
    refine x_ret rfl rfl ?_
    exact ⟨rfl, by decide, by decide⟩
  · have ec1 := mt (z_1 (0) (by decide)).mpr c1
    refine x_in rfl rfl rfl ?_
    refine x_in rfl rfl rfl ?_
    refine x_in rfl rfl rfl ?_
    refine x_bT rfl rfl ((z_4 (0) (by decide)).mpr (by omega)) ?_
    refine x_in rfl rfl rfl ?_
    refine x_ret rfl rfl ?_
    refine x_in rfl rfl rfl ?_
    refine x_in rfl rfl rfl ?_
    refine x_in rfl rfl rfl ?_
    refine x_in rfl rfl rfl ?_
    refine x_top (show _ = Value.int ((-1 : Int32)) from congrArg Value.int (by decide)) ?_
    refine x_in rfl rfl rfl ?_
    refine x_ret rfl rfl ?_
    refine x_in rfl rfl rfl ?_
    refine x_in rfl rfl rfl ?_
    refine x_in rfl rfl rfl ?_
    refine x_in rfl rfl rfl ?_
    refine x_top (show _ = Value.int ((1 : Int32)) from congrArg Value.int (by decide)) ?_
    refine x_in rfl rfl rfl ?_
    refine x_top (show _ = Value.int ((1 : Int32)) from congrArg Value.int (by decide)) ?_
    refine x_in rfl rfl rfl ?_
    refine x_cV rfl rfl rfl rfl ⟨rfl, (Nat.le_of_ble_eq_true rfl), (Nat.le_of_ble_eq_true rfl)⟩ (x_enter (Nat.le_of_ble_eq_true rfl) ?_)
    refine x_in rfl rfl rfl ?_
    refine x_in rfl rfl rfl ?_
    refine x_cV rfl rfl rfl rfl ⟨rfl, (Nat.le_of_ble_eq_true rfl), (Nat.le_of_ble_eq_true rfl)⟩ (x_enter (Nat.le_of_ble_eq_true rfl) ?_)
    refine x_in rfl rfl rfl ?_
    refine x_in rfl rfl rfl ?_
    refine x_top (show _ = Value.int ((0 : Int32)) from congrArg Value.int (by decide)) ?_
    refine x_in rfl rfl rfl ?_
    refine x_in rfl rfl rfl ?_
    refine x_in rfl rfl rfl ?_
    refine x_top (show _ = Value.int ((1 : Int32)) from congrArg Value.int (by decide)) ?_
    refine x_in rfl rfl rfl ?_
    refine x_in rfl rfl rfl ?_
    refine x_top (show _ = Value.int ((1 : Int32)) from congrArg Value.int (by decide)) ?_
    refine x_in rfl rfl rfl ?_
    refine x_top (show _ = Value.int ((-1 : Int32)) from congrArg Value.int (by decide)) ?_
    refine x_cS rfl (by decide) rfl rfl ⟨(Nat.le_of_ble_eq_true rfl), (Nat.le_of_ble_eq_true rfl)⟩ (x_enter (Nat.le_of_ble_eq_true rfl) ?_)
    refine x_in rfl rfl rfl ?_
    refine x_in rfl rfl rfl ?_
    refine x_bF rfl rfl (mt (z_1 (0) (by decide)).mp (by omega)) ?_
    refine x_in rfl rfl rfl ?_
    refine x_in rfl rfl rfl ?_
    refine x_bT rfl rfl ((z_2 (-1) (by decide)).mpr (by omega)) ?_
    refine x_in rfl rfl rfl ?_
    refine x_top (show _ = Value.int ((0 : Int32)) from congrArg Value.int (by decide)) ?_
    refine x_ret rfl rfl ?_
    refine x_ret rfl rfl ?_
    refine x_in rfl rfl rfl ?_
    refine x_in rfl rfl rfl ?_
    refine x_top (show _ = Value.int ((-1 : Int32)) from congrArg Value.int (by decide)) ?_
    refine x_ret rfl rfl ?_
    refine x_in rfl rfl rfl ?_
    refine x_iinc (z := (6 : Int32)) rfl rfl (by decide) ?_
    refine x_in rfl rfl rfl ?_
    refine x_in rfl rfl rfl ?_
    refine x_in rfl rfl rfl ?_
    refine x_in rfl rfl rfl ?_
    refine x_top (show _ = Value.int ((6 : Int32)) from rfl) ?_
    refine x_in rfl rfl rfl ?_
    refine x_top (show _ = Value.int ((6 : Int32)) from congrArg Value.int (by decide)) ?_
    refine x_in rfl rfl rfl ?_
    refine x_top (show _ = Value.int ((0 : Int32)) from congrArg Value.int (by decide)) ?_
    refine x_in rfl rfl rfl ?_
    refine x_in rfl rfl rfl ?_
    refine x_top (show _ = Value.int ((1 : Int32)) from congrArg Value.int (by decide)) ?_
    refine x_ret rfl rfl ?_
    exact ⟨rfl, by decide, by decide⟩
set_option maxRecDepth 100000 in
set_option maxHeartbeats 4000000 in
theorem c_8 (n : Nat) (c a1 a2 a3 a4 a5 : Int32) : x_E (m_X [c, a1, a2, a3, a4, a5]) 60 181 193 11164 (n + 300) 490 [(3, .int 0), (2, .ref 170), (1, .ref 0), (0, .ref 1000000)] [] m_h0 lK := by
  refine x_in rfl rfl rfl ?_
  refine x_in rfl rfl rfl ?_
  refine x_in rfl rfl rfl ?_
  refine x_in rfl rfl rfl ?_
  refine x_top (show _ = Value.int ((1 : Int32)) from congrArg Value.int (by decide)) ?_
  refine x_in rfl rfl rfl ?_
  refine x_top (show _ = Value.int ((1 : Int32)) from congrArg Value.int (by decide)) ?_
  refine x_in rfl rfl rfl ?_
  refine x_cV rfl rfl rfl rfl ⟨rfl, (Nat.le_of_ble_eq_true rfl), (Nat.le_of_ble_eq_true rfl)⟩ (x_enter (Nat.le_of_ble_eq_true rfl) ?_)
  refine x_in rfl rfl rfl ?_
  refine x_in rfl rfl rfl ?_
  refine x_top (show _ = Value.int ((-1 : Int32)) from congrArg Value.int (by decide)) ?_
  refine x_br rfl rfl (fun c1 => ?_) (fun c1 => ?_)
  · have ec1 := (z_5 (-1) (by decide)).mp c1
    refine x_in rfl rfl rfl ?_
    refine x_in rfl rfl rfl ?_
    refine x_in rfl rfl rfl ?_
    refine x_top (show _ = Value.int ((0 : Int32)) from congrArg Value.int (by decide)) ?_
    refine x_in rfl rfl rfl ?_
    refine x_in rfl rfl rfl ?_
    refine x_top (show _ = Value.int ((0 : Int32)) from congrArg Value.int (by decide)) ?_
    refine x_ret rfl rfl ?_
    refine x_in rfl rfl rfl ?_
    refine x_in rfl rfl rfl ?_
    refine x_in rfl rfl rfl ?_
    refine x_in rfl rfl rfl ?_
    refine x_top (show _ = Value.int ((1 : Int32)) from congrArg Value.int (by decide)) ?_
    refine x_in rfl rfl rfl ?_
    refine x_top (show _ = Value.int ((1 : Int32)) from congrArg Value.int (by decide)) ?_
    refine x_in rfl rfl rfl ?_
    refine x_cV rfl rfl rfl rfl ⟨rfl, (Nat.le_of_ble_eq_true rfl), (Nat.le_of_ble_eq_true rfl)⟩ (x_enter (Nat.le_of_ble_eq_true rfl) ?_)
    refine x_in rfl rfl rfl ?_
    refine x_in rfl rfl rfl ?_
    refine x_top (show _ = Value.int ((-1 : Int32)) from congrArg Value.int (by decide)) ?_
    refine x_bT rfl rfl ((z_5 (-1) (by decide)).mpr (by omega)) ?_
    refine x_in rfl rfl rfl ?_
    refine x_in rfl rfl rfl ?_
    refine x_in rfl rfl rfl ?_
    refine x_top (show _ = Value.int ((2 : Int32)) from congrArg Value.int (by decide)) ?_
    refine x_in rfl rfl rfl ?_
    refine x_top (show _ = Value.int ((0 : Int32)) from congrArg Value.int (by decide)) ?_
    refine x_in rfl rfl rfl ?_
    refine x_in rfl rfl rfl ?_
    refine x_top (show _ = Value.int ((0 : Int32)) from congrArg Value.int (by decide)) ?_
    refine x_ret rfl rfl ?_
    refine x_in rfl rfl rfl ?_
    refine x_iinc (z := (6 : Int32)) rfl rfl (by decide) ?_
    refine x_in rfl rfl rfl ?_
    refine x_in rfl rfl rfl ?_
    refine x_in rfl rfl rfl ?_
    refine x_in rfl rfl rfl ?_
    refine x_top (show _ = Value.int ((6 : Int32)) from rfl) ?_
    refine x_in rfl rfl rfl ?_
    refine x_top (show _ = Value.int ((6 : Int32)) from congrArg Value.int (by decide)) ?_
    refine x_in rfl rfl rfl ?_
    refine x_top (show _ = Value.int ((0 : Int32)) from congrArg Value.int (by decide)) ?_
    refine x_in rfl rfl rfl ?_
    refine x_in rfl rfl rfl ?_
    refine x_top (show _ = Value.int ((1 : Int32)) from congrArg Value.int (by decide)) ?_
    refine x_ret rfl rfl ?_
    exact ⟨rfl, by decide, by decide⟩
  · have ec1 := mt (z_5 (-1) (by decide)).mpr c1
    refine x_in rfl rfl rfl ?_
    refine x_in rfl rfl rfl ?_
    refine x_in rfl rfl rfl ?_
    refine x_cV rfl rfl rfl rfl ⟨rfl, (Nat.le_of_ble_eq_true rfl), (Nat.le_of_ble_eq_true rfl)⟩ (x_enter (Nat.le_of_ble_eq_true rfl) ?_)
    refine x_in rfl rfl rfl ?_
    refine x_br rfl rfl (fun c2 => ?_) (fun c2 => ?_)
    · have ec2 := (z_1 (0) (by decide)).mp c2
      refine x_in rfl rfl rfl ?_
      refine x_ret rfl rfl ?_
      refine x_in rfl rfl rfl ?_
      refine x_in rfl rfl rfl ?_
      refine x_top (show _ = Value.int ((-1 : Int32)) from congrArg Value.int (by decide)) ?_
      refine x_ret rfl rfl ?_
      refine x_in rfl rfl rfl ?_
      refine x_in rfl rfl rfl ?_
      refine x_in rfl rfl rfl ?_
      refine x_in rfl rfl rfl ?_
      refine x_top (show _ = Value.int ((1 : Int32)) from congrArg Value.int (by decide)) ?_
      refine x_in rfl rfl rfl ?_
      refine x_top (show _ = Value.int ((1 : Int32)) from congrArg Value.int (by decide)) ?_
      refine x_in rfl rfl rfl ?_
      refine x_cV rfl rfl rfl rfl ⟨rfl, (Nat.le_of_ble_eq_true rfl), (Nat.le_of_ble_eq_true rfl)⟩ (x_enter (Nat.le_of_ble_eq_true rfl) ?_)
      refine x_in rfl rfl rfl ?_
      refine x_in rfl rfl rfl ?_
      refine x_top (show _ = Value.int ((-1 : Int32)) from congrArg Value.int (by decide)) ?_
      refine x_bF rfl rfl (mt (z_5 (-1) (by decide)).mp (by omega)) ?_
      refine x_in rfl rfl rfl ?_
      refine x_in rfl rfl rfl ?_
      refine x_cV rfl rfl rfl rfl ⟨rfl, (Nat.le_of_ble_eq_true rfl), (Nat.le_of_ble_eq_true rfl)⟩ (x_enter (Nat.le_of_ble_eq_true rfl) ?_)
      refine x_in rfl rfl rfl ?_
      refine x_in rfl rfl rfl ?_
      refine x_top (show _ = Value.int ((0 : Int32)) from congrArg Value.int (by decide)) ?_
      refine x_in rfl rfl rfl ?_
      refine x_in rfl rfl rfl ?_
      refine x_in rfl rfl rfl ?_
      refine x_top (show _ = Value.int ((1 : Int32)) from congrArg Value.int (by decide)) ?_
      refine x_in rfl rfl rfl ?_
      refine x_in rfl rfl rfl ?_
      refine x_top (show _ = Value.int ((1 : Int32)) from congrArg Value.int (by decide)) ?_
      refine x_in rfl rfl rfl ?_
      refine x_top (show _ = Value.int ((-1 : Int32)) from congrArg Value.int (by decide)) ?_
      refine x_cS rfl (by decide) rfl rfl ⟨(Nat.le_of_ble_eq_true rfl), (Nat.le_of_ble_eq_true rfl)⟩ (x_enter (Nat.le_of_ble_eq_true rfl) ?_)
      refine x_in rfl rfl rfl ?_
      refine x_in rfl rfl rfl ?_
      refine x_bT rfl rfl ((z_1 (0) (by decide)).mpr (by omega)) ?_
      refine x_in rfl rfl rfl ?_
      refine x_top (show _ = Value.int ((0 : Int32)) from congrArg Value.int (by decide)) ?_
      refine x_ret rfl rfl ?_
      refine x_ret rfl rfl ?_
      refine x_in rfl rfl rfl ?_
      refine x_in rfl rfl rfl ?_
      refine x_top (show _ = Value.int ((-1 : Int32)) from congrArg Value.int (by decide)) ?_
      refine x_ret rfl rfl ?_
      refine x_in rfl rfl rfl ?_
      refine x_iinc (z := (6 : Int32)) rfl rfl (by decide) ?_
      refine x_in rfl rfl rfl ?_
      refine x_in rfl rfl rfl ?_
      refine x_in rfl rfl rfl ?_
      refine x_in rfl rfl rfl ?_
      refine x_top (show _ = Value.int ((6 : Int32)) from rfl) ?_
      refine x_in rfl rfl rfl ?_
      refine x_top (show _ = Value.int ((6 : Int32)) from congrArg Value.int (by decide)) ?_
      refine x_in rfl rfl rfl ?_
      refine x_top (show _ = Value.int ((0 : Int32)) from congrArg Value.int (by decide)) ?_
      refine x_in rfl rfl rfl ?_
      refine x_in rfl rfl rfl ?_
      refine x_top (show _ = Value.int ((1 : Int32)) from congrArg Value.int (by decide)) ?_
      refine x_ret rfl rfl ?_
      exact ⟨rfl, by decide, by decide⟩
    · have ec2 := mt (z_1 (0) (by decide)).mpr c2
      refine x_in rfl rfl rfl ?_
      refine x_in rfl rfl rfl ?_
      refine x_in rfl rfl rfl ?_
      refine x_bT rfl rfl ((z_4 (0) (by decide)).mpr (by omega)) ?_
      refine x_in rfl rfl rfl ?_
      refine x_ret rfl rfl ?_
      refine x_in rfl rfl rfl ?_
      refine x_in rfl rfl rfl ?_
      refine x_top (show _ = Value.int ((-1 : Int32)) from congrArg Value.int (by decide)) ?_
      refine x_ret rfl rfl ?_
      refine x_in rfl rfl rfl ?_
      refine x_in rfl rfl rfl ?_
      refine x_in rfl rfl rfl ?_
      refine x_in rfl rfl rfl ?_
      refine x_top (show _ = Value.int ((1 : Int32)) from congrArg Value.int (by decide)) ?_
      refine x_in rfl rfl rfl ?_
      refine x_top (show _ = Value.int ((1 : Int32)) from congrArg Value.int (by decide)) ?_
      refine x_in rfl rfl rfl ?_
      refine x_cV rfl rfl rfl rfl ⟨rfl, (Nat.le_of_ble_eq_true rfl), (Nat.le_of_ble_eq_true rfl)⟩ (x_enter (Nat.le_of_ble_eq_true rfl) ?_)
      refine x_in rfl rfl rfl ?_
      refine x_in rfl rfl rfl ?_
      refine x_top (show _ = Value.int ((-1 : Int32)) from congrArg Value.int (by decide)) ?_
      refine x_bF rfl rfl (mt (z_5 (-1) (by decide)).mp (by omega)) ?_
      refine x_in rfl rfl rfl ?_
      refine x_in rfl rfl rfl ?_
      refine x_cV rfl rfl rfl rfl ⟨rfl, (Nat.le_of_ble_eq_true rfl), (Nat.le_of_ble_eq_true rfl)⟩ (x_enter (Nat.le_of_ble_eq_true rfl) ?_)
      refine x_in rfl rfl rfl ?_
      refine x_in rfl rfl rfl ?_
      refine x_top (show _ = Value.int ((0 : Int32)) from congrArg Value.int (by decide)) ?_
      refine x_in rfl rfl rfl ?_
      refine x_in rfl rfl rfl ?_
      refine x_in rfl rfl rfl ?_
      refine x_top (show _ = Value.int ((1 : Int32)) from congrArg Value.int (by decide)) ?_
      refine x_in rfl rfl rfl ?_
      refine x_in rfl rfl rfl ?_
      refine x_top (show _ = Value.int ((1 : Int32)) from congrArg Value.int (by decide)) ?_
      refine x_in rfl rfl rfl ?_
      refine x_top (show _ = Value.int ((-1 : Int32)) from congrArg Value.int (by decide)) ?_
      refine x_cS rfl (by decide) rfl rfl ⟨(Nat.le_of_ble_eq_true rfl), (Nat.le_of_ble_eq_true rfl)⟩ (x_enter (Nat.le_of_ble_eq_true rfl) ?_)
      refine x_in rfl rfl rfl ?_
      refine x_in rfl rfl rfl ?_
      refine x_bF rfl rfl (mt (z_1 (0) (by decide)).mp (by omega)) ?_
      refine x_in rfl rfl rfl ?_
      refine x_in rfl rfl rfl ?_
      refine x_bT rfl rfl ((z_2 (-1) (by decide)).mpr (by omega)) ?_
      refine x_in rfl rfl rfl ?_
      refine x_top (show _ = Value.int ((0 : Int32)) from congrArg Value.int (by decide)) ?_
      refine x_ret rfl rfl ?_
      refine x_ret rfl rfl ?_
      refine x_in rfl rfl rfl ?_
      refine x_in rfl rfl rfl ?_
      refine x_top (show _ = Value.int ((-1 : Int32)) from congrArg Value.int (by decide)) ?_
      refine x_ret rfl rfl ?_
      refine x_in rfl rfl rfl ?_
      refine x_iinc (z := (6 : Int32)) rfl rfl (by decide) ?_
      refine x_in rfl rfl rfl ?_
      refine x_in rfl rfl rfl ?_
      refine x_in rfl rfl rfl ?_
      refine x_in rfl rfl rfl ?_
      refine x_top (show _ = Value.int ((6 : Int32)) from rfl) ?_
      refine x_in rfl rfl rfl ?_
      refine x_top (show _ = Value.int ((6 : Int32)) from congrArg Value.int (by decide)) ?_
      refine x_in rfl rfl rfl ?_
      refine x_top (show _ = Value.int ((0 : Int32)) from congrArg Value.int (by decide)) ?_
      refine x_in rfl rfl rfl ?_
      refine x_in rfl rfl rfl ?_
      refine x_top (show _ = Value.int ((1 : Int32)) from congrArg Value.int (by decide)) ?_
      refine x_ret rfl rfl ?_
      exact ⟨rfl, by decide, by decide⟩
set_option maxRecDepth 100000 in
set_option maxHeartbeats 4000000 in
theorem c_10 (n : Nat) (c a1 a2 a3 a4 a5 : Int32) : x_E (m_X [c, a1, a2, a3, a4, a5]) 60 181 193 11164 (n + 300) 566 [(3, .int 0), (2, .ref 170), (1, .ref 0), (0, .ref 1000000)] [] m_h0 lK := by
  refine x_in rfl rfl rfl ?_
  refine x_in rfl rfl rfl ?_
  refine x_in rfl rfl rfl ?_
  refine x_in rfl rfl rfl ?_
  refine x_top (show _ = Value.int ((1 : Int32)) from congrArg Value.int (by decide)) ?_
  refine x_in rfl rfl rfl ?_
  refine x_top (show _ = Value.int ((1 : Int32)) from congrArg Value.int (by decide)) ?_
  refine x_in rfl rfl rfl ?_
  refine x_in rfl rfl rfl ?_
  refine x_in rfl rfl rfl ?_
  refine x_in rfl rfl rfl ?_
  refine x_top (show _ = Value.int ((2 : Int32)) from congrArg Value.int (by decide)) ?_
  refine x_in rfl rfl rfl ?_
  refine x_top (show _ = Value.int ((2 : Int32)) from congrArg Value.int (by decide)) ?_
  refine x_in rfl rfl rfl ?_
  refine x_in rfl rfl rfl ?_
  refine x_in rfl rfl rfl ?_
  refine x_in rfl rfl rfl ?_
  refine x_top (show _ = Value.int ((3 : Int32)) from congrArg Value.int (by decide)) ?_
  refine x_in rfl rfl rfl ?_
  refine x_top (show _ = Value.int ((3 : Int32)) from congrArg Value.int (by decide)) ?_
  refine x_in rfl rfl rfl ?_
  refine x_cV rfl rfl rfl rfl ⟨rfl, (Nat.le_of_ble_eq_true rfl), (Nat.le_of_ble_eq_true rfl)⟩ (x_enter (Nat.le_of_ble_eq_true rfl) ?_)
  refine x_in rfl rfl rfl ?_
  refine x_in rfl rfl rfl ?_
  refine x_in rfl rfl rfl ?_
  refine x_cV rfl rfl rfl rfl ⟨rfl, (Nat.le_of_ble_eq_true rfl), (Nat.le_of_ble_eq_true rfl)⟩ (x_enter (Nat.le_of_ble_eq_true rfl) ?_)
  refine x_in rfl rfl rfl ?_
  refine x_br rfl rfl (fun c1 => ?_) (fun c1 => ?_)
  · have ec1 := (z_1 (0) (by decide)).mp c1
    refine x_in rfl rfl rfl ?_
    refine x_ret rfl rfl ?_
    refine x_in rfl rfl rfl ?_
    refine x_in rfl rfl rfl ?_
    refine x_in rfl rfl rfl ?_
    refine x_in rfl rfl rfl ?_
    refine x_cV rfl rfl rfl rfl ⟨rfl, (Nat.le_of_ble_eq_true rfl), (Nat.le_of_ble_eq_true rfl)⟩ (x_enter (Nat.le_of_ble_eq_true rfl) ?_)
    refine x_in rfl rfl rfl ?_
    refine x_br rfl rfl (fun c2 => ?_) (fun c2 => ?_)
    · have ec2 := (z_1 (0) (by decide)).mp c2
      refine x_in rfl rfl rfl ?_
      refine x_ret rfl rfl ?_
      refine x_in rfl rfl rfl ?_
      refine x_in rfl rfl rfl ?_
      refine x_in rfl rfl rfl ?_
      refine x_in rfl rfl rfl ?_
      refine x_top (show _ = Value.int ((-1 : Int32)) from congrArg Value.int (by decide)) ?_
      refine x_ret rfl rfl ?_
      refine x_in rfl rfl rfl ?_
      refine x_in rfl rfl rfl ?_
      refine x_in rfl rfl rfl ?_
      refine x_in rfl rfl rfl ?_
      refine x_top (show _ = Value.int ((1 : Int32)) from congrArg Value.int (by decide)) ?_
      refine x_in rfl rfl rfl ?_
      refine x_top (show _ = Value.int ((1 : Int32)) from congrArg Value.int (by decide)) ?_
      refine x_in rfl rfl rfl ?_
      refine x_in rfl rfl rfl ?_
      refine x_in rfl rfl rfl ?_
      refine x_in rfl rfl rfl ?_
      refine x_top (show _ = Value.int ((2 : Int32)) from congrArg Value.int (by decide)) ?_
      refine x_in rfl rfl rfl ?_
      refine x_top (show _ = Value.int ((2 : Int32)) from congrArg Value.int (by decide)) ?_
      refine x_in rfl rfl rfl ?_
      refine x_in rfl rfl rfl ?_
      refine x_in rfl rfl rfl ?_
      refine x_in rfl rfl rfl ?_
      refine x_top (show _ = Value.int ((3 : Int32)) from congrArg Value.int (by decide)) ?_
      refine x_in rfl rfl rfl ?_
      refine x_top (show _ = Value.int ((3 : Int32)) from congrArg Value.int (by decide)) ?_
      refine x_in rfl rfl rfl ?_
      refine x_cV rfl rfl rfl rfl ⟨rfl, (Nat.le_of_ble_eq_true rfl), (Nat.le_of_ble_eq_true rfl)⟩ (x_enter (Nat.le_of_ble_eq_true rfl) ?_)
      refine x_in rfl rfl rfl ?_
      refine x_in rfl rfl rfl ?_
      refine x_cV rfl rfl rfl rfl ⟨rfl, (Nat.le_of_ble_eq_true rfl), (Nat.le_of_ble_eq_true rfl)⟩ (x_enter (Nat.le_of_ble_eq_true rfl) ?_)
      refine x_in rfl rfl rfl ?_
      refine x_in rfl rfl rfl ?_
      refine x_top (show _ = Value.int ((0 : Int32)) from congrArg Value.int (by decide)) ?_
      refine x_in rfl rfl rfl ?_
      refine x_in rfl rfl rfl ?_
      refine x_in rfl rfl rfl ?_
      refine x_top (show _ = Value.int ((1 : Int32)) from congrArg Value.int (by decide)) ?_
      refine x_in rfl rfl rfl ?_
      refine x_in rfl rfl rfl ?_
      refine x_top (show _ = Value.int ((1 : Int32)) from congrArg Value.int (by decide)) ?_
      refine x_in rfl rfl rfl ?_
      refine x_top (show _ = Value.int ((-1 : Int32)) from congrArg Value.int (by decide)) ?_
      refine x_cS rfl (by decide) rfl rfl ⟨(Nat.le_of_ble_eq_true rfl), (Nat.le_of_ble_eq_true rfl)⟩ (x_enter (Nat.le_of_ble_eq_true rfl) ?_)
      refine x_in rfl rfl rfl ?_
      refine x_in rfl rfl rfl ?_
      refine x_bT rfl rfl ((z_1 (0) (by decide)).mpr (by omega)) ?_
      refine x_in rfl rfl rfl ?_
      refine x_top (show _ = Value.int ((0 : Int32)) from congrArg Value.int (by decide)) ?_
      refine x_ret rfl rfl ?_
      refine x_ret rfl rfl ?_
      refine x_in rfl rfl rfl ?_
      refine x_in rfl rfl rfl ?_
      refine x_top (show _ = Value.int ((-1 : Int32)) from congrArg Value.int (by decide)) ?_
      refine x_ret rfl rfl ?_
      refine x_in rfl rfl rfl ?_
      refine x_iinc (z := (6 : Int32)) rfl rfl (by decide) ?_
      refine x_in rfl rfl rfl ?_
      refine x_in rfl rfl rfl ?_
      refine x_in rfl rfl rfl ?_
      refine x_in rfl rfl rfl ?_
      refine x_top (show _ = Value.int ((6 : Int32)) from rfl) ?_
      refine x_in rfl rfl rfl ?_
      refine x_top (show _ = Value.int ((6 : Int32)) from congrArg Value.int (by decide)) ?_
      refine x_in rfl rfl rfl ?_
      refine x_top (show _ = Value.int ((0 : Int32)) from congrArg Value.int (by decide)) ?_
      refine x_in rfl rfl rfl ?_
      refine x_in rfl rfl rfl ?_
      refine x_top (show _ = Value.int ((1 : Int32)) from congrArg Value.int (by decide)) ?_
      refine x_ret rfl rfl ?_
      exact ⟨rfl, by decide, by decide⟩
    · have ec2 := mt (z_1 (0) (by decide)).mpr c2
      refine x_in rfl rfl rfl ?_
      refine x_in rfl rfl rfl ?_
      refine x_in rfl rfl rfl ?_
      refine x_bT rfl rfl ((z_4 (0) (by decide)).mpr (by omega)) ?_
      refine x_in rfl rfl rfl ?_
      refine x_ret rfl rfl ?_
      refine x_in rfl rfl rfl ?_
      refine x_in rfl rfl rfl ?_
      refine x_in rfl rfl rfl ?_
      refine x_in rfl rfl rfl ?_
      refine x_top (show _ = Value.int ((-1 : Int32)) from congrArg Value.int (by decide)) ?_
      refine x_ret rfl rfl ?_
      refine x_in rfl rfl rfl ?_
      refine x_in rfl rfl rfl ?_
      refine x_in rfl rfl rfl ?_
      refine x_in rfl rfl rfl ?_
      refine x_top (show _ = Value.int ((1 : Int32)) from congrArg Value.int (by decide)) ?_
      refine x_in rfl rfl rfl ?_
      refine x_top (show _ = Value.int ((1 : Int32)) from congrArg Value.int (by decide)) ?_
      refine x_in rfl rfl rfl ?_
      refine x_in rfl rfl rfl ?_
      refine x_in rfl rfl rfl ?_
      refine x_in rfl rfl rfl ?_
      refine x_top (show _ = Value.int ((2 : Int32)) from congrArg Value.int (by decide)) ?_
      refine x_in rfl rfl rfl ?_
      refine x_top (show _ = Value.int ((2 : Int32)) from congrArg Value.int (by decide)) ?_
      refine x_in rfl rfl rfl ?_
      refine x_in rfl rfl rfl ?_
      refine x_in rfl rfl rfl ?_
      refine x_in rfl rfl rfl ?_
      refine x_top (show _ = Value.int ((3 : Int32)) from congrArg Value.int (by decide)) ?_
      refine x_in rfl rfl rfl ?_
      refine x_top (show _ = Value.int ((3 : Int32)) from congrArg Value.int (by decide)) ?_
      refine x_in rfl rfl rfl ?_
      refine x_cV rfl rfl rfl rfl ⟨rfl, (Nat.le_of_ble_eq_true rfl), (Nat.le_of_ble_eq_true rfl)⟩ (x_enter (Nat.le_of_ble_eq_true rfl) ?_)
      refine x_in rfl rfl rfl ?_
      refine x_in rfl rfl rfl ?_
      refine x_cV rfl rfl rfl rfl ⟨rfl, (Nat.le_of_ble_eq_true rfl), (Nat.le_of_ble_eq_true rfl)⟩ (x_enter (Nat.le_of_ble_eq_true rfl) ?_)
      refine x_in rfl rfl rfl ?_
      refine x_in rfl rfl rfl ?_
      refine x_top (show _ = Value.int ((0 : Int32)) from congrArg Value.int (by decide)) ?_
      refine x_in rfl rfl rfl ?_
      refine x_in rfl rfl rfl ?_
      refine x_in rfl rfl rfl ?_
      refine x_top (show _ = Value.int ((1 : Int32)) from congrArg Value.int (by decide)) ?_
      refine x_in rfl rfl rfl ?_
      refine x_in rfl rfl rfl ?_
      refine x_top (show _ = Value.int ((1 : Int32)) from congrArg Value.int (by decide)) ?_
      refine x_in rfl rfl rfl ?_
      refine x_top (show _ = Value.int ((-1 : Int32)) from congrArg Value.int (by decide)) ?_
      refine x_cS rfl (by decide) rfl rfl ⟨(Nat.le_of_ble_eq_true rfl), (Nat.le_of_ble_eq_true rfl)⟩ (x_enter (Nat.le_of_ble_eq_true rfl) ?_)
      refine x_in rfl rfl rfl ?_
      refine x_in rfl rfl rfl ?_
      refine x_bT rfl rfl ((z_1 (0) (by decide)).mpr (by omega)) ?_
      refine x_in rfl rfl rfl ?_
      refine x_top (show _ = Value.int ((0 : Int32)) from congrArg Value.int (by decide)) ?_
      refine x_ret rfl rfl ?_
      refine x_ret rfl rfl ?_
      refine x_in rfl rfl rfl ?_
      refine x_in rfl rfl rfl ?_
      refine x_top (show _ = Value.int ((-1 : Int32)) from congrArg Value.int (by decide)) ?_
      refine x_ret rfl rfl ?_
      refine x_in rfl rfl rfl ?_
      refine x_iinc (z := (6 : Int32)) rfl rfl (by decide) ?_
      refine x_in rfl rfl rfl ?_
      refine x_in rfl rfl rfl ?_
      refine x_in rfl rfl rfl ?_
      refine x_in rfl rfl rfl ?_
      refine x_top (show _ = Value.int ((6 : Int32)) from rfl) ?_
      refine x_in rfl rfl rfl ?_
      refine x_top (show _ = Value.int ((6 : Int32)) from congrArg Value.int (by decide)) ?_
      refine x_in rfl rfl rfl ?_
      refine x_top (show _ = Value.int ((0 : Int32)) from congrArg Value.int (by decide)) ?_
      refine x_in rfl rfl rfl ?_
      refine x_in rfl rfl rfl ?_
      refine x_top (show _ = Value.int ((1 : Int32)) from congrArg Value.int (by decide)) ?_
      refine x_ret rfl rfl ?_
      exact ⟨rfl, by decide, by decide⟩
  · have ec1 := mt (z_1 (0) (by decide)).mpr c1
    refine x_in rfl rfl rfl ?_
    refine x_in rfl rfl rfl ?_
    refine x_in rfl rfl rfl ?_
    refine x_bT rfl rfl ((z_4 (0) (by decide)).mpr (by omega)) ?_
    refine x_in rfl rfl rfl ?_
    refine x_ret rfl rfl ?_
    refine x_in rfl rfl rfl ?_
    refine x_in rfl rfl rfl ?_
    refine x_in rfl rfl rfl ?_
    refine x_in rfl rfl rfl ?_
    refine x_cV rfl rfl rfl rfl ⟨rfl, (Nat.le_of_ble_eq_true rfl), (Nat.le_of_ble_eq_true rfl)⟩ (x_enter (Nat.le_of_ble_eq_true rfl) ?_)
    refine x_in rfl rfl rfl ?_
    refine x_br rfl rfl (fun c3 => ?_) (fun c3 => ?_)
    · have ec3 := (z_1 (0) (by decide)).mp c3
      refine x_in rfl rfl rfl ?_
      refine x_ret rfl rfl ?_
      refine x_in rfl rfl rfl ?_
      refine x_in rfl rfl rfl ?_
      refine x_in rfl rfl rfl ?_
      refine x_in rfl rfl rfl ?_
      refine x_top (show _ = Value.int ((-1 : Int32)) from congrArg Value.int (by decide)) ?_
      refine x_ret rfl rfl ?_
      refine x_in rfl rfl rfl ?_
      refine x_in rfl rfl rfl ?_
      refine x_in rfl rfl rfl ?_
      refine x_in rfl rfl rfl ?_
      refine x_top (show _ = Value.int ((1 : Int32)) from congrArg Value.int (by decide)) ?_
      refine x_in rfl rfl rfl ?_
      refine x_top (show _ = Value.int ((1 : Int32)) from congrArg Value.int (by decide)) ?_
      refine x_in rfl rfl rfl ?_
      refine x_in rfl rfl rfl ?_
      refine x_in rfl rfl rfl ?_
      refine x_in rfl rfl rfl ?_
      refine x_top (show _ = Value.int ((2 : Int32)) from congrArg Value.int (by decide)) ?_
      refine x_in rfl rfl rfl ?_
      refine x_top (show _ = Value.int ((2 : Int32)) from congrArg Value.int (by decide)) ?_
      refine x_in rfl rfl rfl ?_
      refine x_in rfl rfl rfl ?_
      refine x_in rfl rfl rfl ?_
      refine x_in rfl rfl rfl ?_
      refine x_top (show _ = Value.int ((3 : Int32)) from congrArg Value.int (by decide)) ?_
      refine x_in rfl rfl rfl ?_
      refine x_top (show _ = Value.int ((3 : Int32)) from congrArg Value.int (by decide)) ?_
      refine x_in rfl rfl rfl ?_
      refine x_cV rfl rfl rfl rfl ⟨rfl, (Nat.le_of_ble_eq_true rfl), (Nat.le_of_ble_eq_true rfl)⟩ (x_enter (Nat.le_of_ble_eq_true rfl) ?_)
      refine x_in rfl rfl rfl ?_
      refine x_in rfl rfl rfl ?_
      refine x_cV rfl rfl rfl rfl ⟨rfl, (Nat.le_of_ble_eq_true rfl), (Nat.le_of_ble_eq_true rfl)⟩ (x_enter (Nat.le_of_ble_eq_true rfl) ?_)
      refine x_in rfl rfl rfl ?_
      refine x_in rfl rfl rfl ?_
      refine x_top (show _ = Value.int ((0 : Int32)) from congrArg Value.int (by decide)) ?_
      refine x_in rfl rfl rfl ?_
      refine x_in rfl rfl rfl ?_
      refine x_in rfl rfl rfl ?_
      refine x_top (show _ = Value.int ((1 : Int32)) from congrArg Value.int (by decide)) ?_
      refine x_in rfl rfl rfl ?_
      refine x_in rfl rfl rfl ?_
      refine x_top (show _ = Value.int ((1 : Int32)) from congrArg Value.int (by decide)) ?_
      refine x_in rfl rfl rfl ?_
      refine x_top (show _ = Value.int ((-1 : Int32)) from congrArg Value.int (by decide)) ?_
      refine x_cS rfl (by decide) rfl rfl ⟨(Nat.le_of_ble_eq_true rfl), (Nat.le_of_ble_eq_true rfl)⟩ (x_enter (Nat.le_of_ble_eq_true rfl) ?_)
      refine x_in rfl rfl rfl ?_
      refine x_in rfl rfl rfl ?_
      refine x_bF rfl rfl (mt (z_1 (0) (by decide)).mp (by omega)) ?_
      refine x_in rfl rfl rfl ?_
      refine x_in rfl rfl rfl ?_
      refine x_bT rfl rfl ((z_2 (-1) (by decide)).mpr (by omega)) ?_
      refine x_in rfl rfl rfl ?_
      refine x_top (show _ = Value.int ((0 : Int32)) from congrArg Value.int (by decide)) ?_
      refine x_ret rfl rfl ?_
      refine x_ret rfl rfl ?_
      refine x_in rfl rfl rfl ?_
      refine x_in rfl rfl rfl ?_
      refine x_top (show _ = Value.int ((-1 : Int32)) from congrArg Value.int (by decide)) ?_
      refine x_ret rfl rfl ?_
      refine x_in rfl rfl rfl ?_
      refine x_iinc (z := (6 : Int32)) rfl rfl (by decide) ?_
      refine x_in rfl rfl rfl ?_
      refine x_in rfl rfl rfl ?_
      refine x_in rfl rfl rfl ?_
      refine x_in rfl rfl rfl ?_
      refine x_top (show _ = Value.int ((6 : Int32)) from rfl) ?_
      refine x_in rfl rfl rfl ?_
      refine x_top (show _ = Value.int ((6 : Int32)) from congrArg Value.int (by decide)) ?_
      refine x_in rfl rfl rfl ?_
      refine x_top (show _ = Value.int ((0 : Int32)) from congrArg Value.int (by decide)) ?_
      refine x_in rfl rfl rfl ?_
      refine x_in rfl rfl rfl ?_
      refine x_top (show _ = Value.int ((1 : Int32)) from congrArg Value.int (by decide)) ?_
      refine x_ret rfl rfl ?_
      exact ⟨rfl, by decide, by decide⟩
    · have ec3 := mt (z_1 (0) (by decide)).mpr c3
      refine x_in rfl rfl rfl ?_
      refine x_in rfl rfl rfl ?_
      refine x_in rfl rfl rfl ?_
      refine x_bT rfl rfl ((z_4 (0) (by decide)).mpr (by omega)) ?_
      refine x_in rfl rfl rfl ?_
      refine x_ret rfl rfl ?_
      refine x_in rfl rfl rfl ?_
      refine x_in rfl rfl rfl ?_
      refine x_in rfl rfl rfl ?_
      refine x_in rfl rfl rfl ?_
      refine x_top (show _ = Value.int ((-1 : Int32)) from congrArg Value.int (by decide)) ?_
      refine x_ret rfl rfl ?_
      refine x_in rfl rfl rfl ?_
      refine x_in rfl rfl rfl ?_
      refine x_in rfl rfl rfl ?_
      refine x_in rfl rfl rfl ?_
      refine x_top (show _ = Value.int ((1 : Int32)) from congrArg Value.int (by decide)) ?_
      refine x_in rfl rfl rfl ?_
      refine x_top (show _ = Value.int ((1 : Int32)) from congrArg Value.int (by decide)) ?_
      refine x_in rfl rfl rfl ?_
      refine x_in rfl rfl rfl ?_
      refine x_in rfl rfl rfl ?_
      refine x_in rfl rfl rfl ?_
      refine x_top (show _ = Value.int ((2 : Int32)) from congrArg Value.int (by decide)) ?_
      refine x_in rfl rfl rfl ?_
      refine x_top (show _ = Value.int ((2 : Int32)) from congrArg Value.int (by decide)) ?_
      refine x_in rfl rfl rfl ?_
      refine x_in rfl rfl rfl ?_
      refine x_in rfl rfl rfl ?_
      refine x_in rfl rfl rfl ?_
      refine x_top (show _ = Value.int ((3 : Int32)) from congrArg Value.int (by decide)) ?_
      refine x_in rfl rfl rfl ?_
      refine x_top (show _ = Value.int ((3 : Int32)) from congrArg Value.int (by decide)) ?_
      refine x_in rfl rfl rfl ?_
      refine x_cV rfl rfl rfl rfl ⟨rfl, (Nat.le_of_ble_eq_true rfl), (Nat.le_of_ble_eq_true rfl)⟩ (x_enter (Nat.le_of_ble_eq_true rfl) ?_)
      refine x_in rfl rfl rfl ?_
      refine x_in rfl rfl rfl ?_
      refine x_cV rfl rfl rfl rfl ⟨rfl, (Nat.le_of_ble_eq_true rfl), (Nat.le_of_ble_eq_true rfl)⟩ (x_enter (Nat.le_of_ble_eq_true rfl) ?_)
      refine x_in rfl rfl rfl ?_
      refine x_in rfl rfl rfl ?_
      refine x_top (show _ = Value.int ((0 : Int32)) from congrArg Value.int (by decide)) ?_
      refine x_in rfl rfl rfl ?_
      refine x_in rfl rfl rfl ?_
      refine x_in rfl rfl rfl ?_
      refine x_top (show _ = Value.int ((1 : Int32)) from congrArg Value.int (by decide)) ?_
      refine x_in rfl rfl rfl ?_
      refine x_in rfl rfl rfl ?_
      refine x_top (show _ = Value.int ((1 : Int32)) from congrArg Value.int (by decide)) ?_
      refine x_in rfl rfl rfl ?_
      refine x_top (show _ = Value.int ((-1 : Int32)) from congrArg Value.int (by decide)) ?_
      refine x_cS rfl (by decide) rfl rfl ⟨(Nat.le_of_ble_eq_true rfl), (Nat.le_of_ble_eq_true rfl)⟩ (x_enter (Nat.le_of_ble_eq_true rfl) ?_)
      refine x_in rfl rfl rfl ?_
      refine x_in rfl rfl rfl ?_
      refine x_bF rfl rfl (mt (z_1 (0) (by decide)).mp (by omega)) ?_
      refine x_in rfl rfl rfl ?_
      refine x_in rfl rfl rfl ?_
      refine x_bT rfl rfl ((z_2 (-1) (by decide)).mpr (by omega)) ?_
      refine x_in rfl rfl rfl ?_
      refine x_top (show _ = Value.int ((0 : Int32)) from congrArg Value.int (by decide)) ?_
      refine x_ret rfl rfl ?_
      refine x_ret rfl rfl ?_
      refine x_in rfl rfl rfl ?_
      refine x_in rfl rfl rfl ?_
      refine x_top (show _ = Value.int ((-1 : Int32)) from congrArg Value.int (by decide)) ?_
      refine x_ret rfl rfl ?_
      refine x_in rfl rfl rfl ?_
      refine x_iinc (z := (6 : Int32)) rfl rfl (by decide) ?_
      refine x_in rfl rfl rfl ?_
      refine x_in rfl rfl rfl ?_
      refine x_in rfl rfl rfl ?_
      refine x_in rfl rfl rfl ?_
      refine x_top (show _ = Value.int ((6 : Int32)) from rfl) ?_
      refine x_in rfl rfl rfl ?_
      refine x_top (show _ = Value.int ((6 : Int32)) from congrArg Value.int (by decide)) ?_
      refine x_in rfl rfl rfl ?_
      refine x_top (show _ = Value.int ((0 : Int32)) from congrArg Value.int (by decide)) ?_
      refine x_in rfl rfl rfl ?_
      refine x_in rfl rfl rfl ?_
      refine x_top (show _ = Value.int ((1 : Int32)) from congrArg Value.int (by decide)) ?_
      refine x_ret rfl rfl ?_
      exact ⟨rfl, by decide, by decide⟩
set_option maxRecDepth 100000 in
set_option maxHeartbeats 4000000 in
theorem c_11 (n : Nat) (c a1 a2 a3 a4 a5 : Int32) : x_E (m_X [c, a1, a2, a3, a4, a5]) 60 181 193 11164 (n + 300) 609 [(3, .int 0), (2, .ref 170), (1, .ref 0), (0, .ref 1000000)] [] m_h0 lK := by
  refine x_in rfl rfl rfl ?_
  refine x_in rfl rfl rfl ?_
  refine x_in rfl rfl rfl ?_
  refine x_in rfl rfl rfl ?_
  refine x_top (show _ = Value.int ((1 : Int32)) from congrArg Value.int (by decide)) ?_
  refine x_in rfl rfl rfl ?_
  refine x_top (show _ = Value.int ((1 : Int32)) from congrArg Value.int (by decide)) ?_
  refine x_in rfl rfl rfl ?_
  refine x_in rfl rfl rfl ?_
  refine x_in rfl rfl rfl ?_
  refine x_in rfl rfl rfl ?_
  refine x_top (show _ = Value.int ((2 : Int32)) from congrArg Value.int (by decide)) ?_
  refine x_in rfl rfl rfl ?_
  refine x_top (show _ = Value.int ((2 : Int32)) from congrArg Value.int (by decide)) ?_
  refine x_in rfl rfl rfl ?_
  refine x_cV rfl rfl rfl rfl ⟨rfl, (Nat.le_of_ble_eq_true rfl), (Nat.le_of_ble_eq_true rfl)⟩ (x_enter (Nat.le_of_ble_eq_true rfl) ?_)
  refine x_in rfl rfl rfl ?_
  refine x_in rfl rfl rfl ?_
  refine x_in rfl rfl rfl ?_
  refine x_cV rfl rfl rfl rfl ⟨rfl, (Nat.le_of_ble_eq_true rfl), (Nat.le_of_ble_eq_true rfl)⟩ (x_enter (Nat.le_of_ble_eq_true rfl) ?_)
  refine x_in rfl rfl rfl ?_
  refine x_br rfl rfl (fun c1 => ?_) (fun c1 => ?_)
  · have ec1 := (z_1 (0) (by decide)).mp c1
    refine x_in rfl rfl rfl ?_
    refine x_ret rfl rfl ?_
    refine x_in rfl rfl rfl ?_
    refine x_in rfl rfl rfl ?_
    refine x_in rfl rfl rfl ?_
    refine x_in rfl rfl rfl ?_
    refine x_top (show _ = Value.int ((-1 : Int32)) from congrArg Value.int (by decide)) ?_
    refine x_in rfl rfl rfl ?_
    refine x_ret rfl rfl ?_
    refine x_in rfl rfl rfl ?_
    refine x_in rfl rfl rfl ?_
    refine x_in rfl rfl rfl ?_
    refine x_in rfl rfl rfl ?_
    refine x_top (show _ = Value.int ((1 : Int32)) from congrArg Value.int (by decide)) ?_
    refine x_in rfl rfl rfl ?_
    refine x_top (show _ = Value.int ((1 : Int32)) from congrArg Value.int (by decide)) ?_
    refine x_in rfl rfl rfl ?_
    refine x_in rfl rfl rfl ?_
    refine x_in rfl rfl rfl ?_
    refine x_in rfl rfl rfl ?_
    refine x_top (show _ = Value.int ((2 : Int32)) from congrArg Value.int (by decide)) ?_
    refine x_in rfl rfl rfl ?_
    refine x_top (show _ = Value.int ((2 : Int32)) from congrArg Value.int (by decide)) ?_
    refine x_in rfl rfl rfl ?_
    refine x_cV rfl rfl rfl rfl ⟨rfl, (Nat.le_of_ble_eq_true rfl), (Nat.le_of_ble_eq_true rfl)⟩ (x_enter (Nat.le_of_ble_eq_true rfl) ?_)
    refine x_in rfl rfl rfl ?_
    refine x_in rfl rfl rfl ?_
    refine x_cV rfl rfl rfl rfl ⟨rfl, (Nat.le_of_ble_eq_true rfl), (Nat.le_of_ble_eq_true rfl)⟩ (x_enter (Nat.le_of_ble_eq_true rfl) ?_)
    refine x_in rfl rfl rfl ?_
    refine x_in rfl rfl rfl ?_
    refine x_top (show _ = Value.int ((0 : Int32)) from congrArg Value.int (by decide)) ?_
    refine x_in rfl rfl rfl ?_
    refine x_in rfl rfl rfl ?_
    refine x_in rfl rfl rfl ?_
    refine x_top (show _ = Value.int ((1 : Int32)) from congrArg Value.int (by decide)) ?_
    refine x_in rfl rfl rfl ?_
    refine x_in rfl rfl rfl ?_
    refine x_top (show _ = Value.int ((1 : Int32)) from congrArg Value.int (by decide)) ?_
    refine x_in rfl rfl rfl ?_
    refine x_top (show _ = Value.int ((-1 : Int32)) from congrArg Value.int (by decide)) ?_
    refine x_cS rfl (by decide) rfl rfl ⟨(Nat.le_of_ble_eq_true rfl), (Nat.le_of_ble_eq_true rfl)⟩ (x_enter (Nat.le_of_ble_eq_true rfl) ?_)
    refine x_in rfl rfl rfl ?_
    refine x_in rfl rfl rfl ?_
    refine x_bT rfl rfl ((z_1 (0) (by decide)).mpr (by omega)) ?_
    refine x_in rfl rfl rfl ?_
    refine x_top (show _ = Value.int ((0 : Int32)) from congrArg Value.int (by decide)) ?_
    refine x_ret rfl rfl ?_
    refine x_ret rfl rfl ?_
    refine x_in rfl rfl rfl ?_
    refine x_in rfl rfl rfl ?_
    refine x_top (show _ = Value.int ((-1 : Int32)) from congrArg Value.int (by decide)) ?_
    refine x_ret rfl rfl ?_
    refine x_in rfl rfl rfl ?_
    refine x_iinc (z := (6 : Int32)) rfl rfl (by decide) ?_
    refine x_in rfl rfl rfl ?_
    refine x_in rfl rfl rfl ?_
    refine x_in rfl rfl rfl ?_
    refine x_in rfl rfl rfl ?_
    refine x_top (show _ = Value.int ((6 : Int32)) from rfl) ?_
    refine x_in rfl rfl rfl ?_
    refine x_top (show _ = Value.int ((6 : Int32)) from congrArg Value.int (by decide)) ?_
    refine x_in rfl rfl rfl ?_
    refine x_top (show _ = Value.int ((0 : Int32)) from congrArg Value.int (by decide)) ?_
    refine x_in rfl rfl rfl ?_
    refine x_in rfl rfl rfl ?_
    refine x_top (show _ = Value.int ((1 : Int32)) from congrArg Value.int (by decide)) ?_
    refine x_ret rfl rfl ?_
    exact ⟨rfl, by decide, by decide⟩
  · have ec1 := mt (z_1 (0) (by decide)).mpr c1
    refine x_in rfl rfl rfl ?_
    refine x_in rfl rfl rfl ?_
    refine x_in rfl rfl rfl ?_
    refine x_bT rfl rfl ((z_4 (0) (by decide)).mpr (by omega)) ?_
    refine x_in rfl rfl rfl ?_
    refine x_ret rfl rfl ?_
    refine x_in rfl rfl rfl ?_
    refine x_in rfl rfl rfl ?_
    refine x_in rfl rfl rfl ?_
    refine x_in rfl rfl rfl ?_
    refine x_top (show _ = Value.int ((-1 : Int32)) from congrArg Value.int (by decide)) ?_
    refine x_in rfl rfl rfl ?_
    refine x_ret rfl rfl ?_
    refine x_in rfl rfl rfl ?_
    refine x_in rfl rfl rfl ?_
    refine x_in rfl rfl rfl ?_
    refine x_in rfl rfl rfl ?_
    refine x_top (show _ = Value.int ((1 : Int32)) from congrArg Value.int (by decide)) ?_
    refine x_in rfl rfl rfl ?_
    refine x_top (show _ = Value.int ((1 : Int32)) from congrArg Value.int (by decide)) ?_
    refine x_in rfl rfl rfl ?_
    refine x_in rfl rfl rfl ?_
    refine x_in rfl rfl rfl ?_
    refine x_in rfl rfl rfl ?_
    refine x_top (show _ = Value.int ((2 : Int32)) from congrArg Value.int (by decide)) ?_
    refine x_in rfl rfl rfl ?_
    refine x_top (show _ = Value.int ((2 : Int32)) from congrArg Value.int (by decide)) ?_
    refine x_in rfl rfl rfl ?_
    refine x_cV rfl rfl rfl rfl ⟨rfl, (Nat.le_of_ble_eq_true rfl), (Nat.le_of_ble_eq_true rfl)⟩ (x_enter (Nat.le_of_ble_eq_true rfl) ?_)
    refine x_in rfl rfl rfl ?_
    refine x_in rfl rfl rfl ?_
    refine x_cV rfl rfl rfl rfl ⟨rfl, (Nat.le_of_ble_eq_true rfl), (Nat.le_of_ble_eq_true rfl)⟩ (x_enter (Nat.le_of_ble_eq_true rfl) ?_)
    refine x_in rfl rfl rfl ?_
    refine x_in rfl rfl rfl ?_
    refine x_top (show _ = Value.int ((0 : Int32)) from congrArg Value.int (by decide)) ?_
    refine x_in rfl rfl rfl ?_
    refine x_in rfl rfl rfl ?_
    refine x_in rfl rfl rfl ?_
    refine x_top (show _ = Value.int ((1 : Int32)) from congrArg Value.int (by decide)) ?_
    refine x_in rfl rfl rfl ?_
    refine x_in rfl rfl rfl ?_
    refine x_top (show _ = Value.int ((1 : Int32)) from congrArg Value.int (by decide)) ?_
    refine x_in rfl rfl rfl ?_
    refine x_top (show _ = Value.int ((-1 : Int32)) from congrArg Value.int (by decide)) ?_
    refine x_cS rfl (by decide) rfl rfl ⟨(Nat.le_of_ble_eq_true rfl), (Nat.le_of_ble_eq_true rfl)⟩ (x_enter (Nat.le_of_ble_eq_true rfl) ?_)
    refine x_in rfl rfl rfl ?_
    refine x_in rfl rfl rfl ?_
    refine x_bF rfl rfl (mt (z_1 (0) (by decide)).mp (by omega)) ?_
    refine x_in rfl rfl rfl ?_
    refine x_in rfl rfl rfl ?_
    refine x_bT rfl rfl ((z_2 (-1) (by decide)).mpr (by omega)) ?_
    refine x_in rfl rfl rfl ?_
    refine x_top (show _ = Value.int ((0 : Int32)) from congrArg Value.int (by decide)) ?_
    refine x_ret rfl rfl ?_
    refine x_ret rfl rfl ?_
    refine x_in rfl rfl rfl ?_
    refine x_in rfl rfl rfl ?_
    refine x_top (show _ = Value.int ((-1 : Int32)) from congrArg Value.int (by decide)) ?_
    refine x_ret rfl rfl ?_
    refine x_in rfl rfl rfl ?_
    refine x_iinc (z := (6 : Int32)) rfl rfl (by decide) ?_
    refine x_in rfl rfl rfl ?_
    refine x_in rfl rfl rfl ?_
    refine x_in rfl rfl rfl ?_
    refine x_in rfl rfl rfl ?_
    refine x_top (show _ = Value.int ((6 : Int32)) from rfl) ?_
    refine x_in rfl rfl rfl ?_
    refine x_top (show _ = Value.int ((6 : Int32)) from congrArg Value.int (by decide)) ?_
    refine x_in rfl rfl rfl ?_
    refine x_top (show _ = Value.int ((0 : Int32)) from congrArg Value.int (by decide)) ?_
    refine x_in rfl rfl rfl ?_
    refine x_in rfl rfl rfl ?_
    refine x_top (show _ = Value.int ((1 : Int32)) from congrArg Value.int (by decide)) ?_
    refine x_ret rfl rfl ?_
    exact ⟨rfl, by decide, by decide⟩
end
section
set_option maxRecDepth 100000 in
set_option maxHeartbeats 4000000 in
theorem c_0_1 (n : Nat) (c a1 a2 a4 a5 : Int32) : x_E (m_X [c, a1, a2, 1, a4, a5]) 60 181 193 11164 (n + 300) 156 [(3, .int 0), (2, .ref 170), (1, .ref 0), (0, .ref 1000000)] [] m_h0 lK := by
  refine x_in rfl rfl rfl ?_
  refine x_in rfl rfl rfl ?_
  refine x_in rfl rfl rfl ?_
  refine x_in rfl rfl rfl ?_
  refine x_top (show _ = Value.int ((1 : Int32)) from congrArg Value.int (by decide)) ?_
  refine x_in rfl rfl rfl ?_
  refine x_top (show _ = Value.int ((1 : Int32)) from congrArg Value.int (by decide)) ?_
  refine x_in rfl rfl rfl ?_
  refine x_in rfl rfl rfl ?_
  refine x_in rfl rfl rfl ?_
  refine x_top (show _ = Value.int ((32 : Int32)) from congrArg Value.int (by decide)) ?_
  refine x_in rfl rfl rfl ?_
  refine x_in rfl rfl rfl ?_
  refine x_in rfl rfl rfl ?_
  refine x_in rfl rfl rfl ?_
  refine x_top (show _ = Value.int ((2 : Int32)) from congrArg Value.int (by decide)) ?_
  refine x_in rfl rfl rfl ?_
  refine x_top (show _ = Value.int ((2 : Int32)) from congrArg Value.int (by decide)) ?_
  refine x_in rfl rfl rfl ?_
  refine x_in rfl rfl rfl ?_
  refine x_in rfl rfl rfl ?_
  refine x_in rfl rfl rfl ?_
  refine x_in rfl rfl rfl ?_
  refine x_in rfl rfl rfl ?_
  refine x_in rfl rfl rfl ?_
  refine x_in rfl rfl rfl ?_
  refine x_top (show _ = Value.int ((3 : Int32)) from congrArg Value.int (by decide)) ?_
  refine x_in rfl rfl rfl ?_
  refine x_top (show _ = Value.int ((3 : Int32)) from congrArg Value.int (by decide)) ?_
  refine x_in rfl rfl rfl ?_
  refine x_cV rfl rfl rfl rfl ⟨rfl, (Nat.le_of_ble_eq_true rfl), (Nat.le_of_ble_eq_true rfl)⟩ (x_enter (Nat.le_of_ble_eq_true rfl) ?_)
  refine x_in rfl rfl rfl ?_
  refine x_in rfl rfl rfl ?_
  refine x_top (show _ = Value.int ((1 : Int32)) from congrArg Value.int (by decide)) ?_
  refine x_in rfl rfl rfl ?_
  refine x_in rfl rfl rfl ?_
  refine x_in rfl rfl rfl ?_
  refine x_top (show _ = Value.int ((8 : Int32)) from congrArg Value.int (by decide)) ?_
  refine x_in rfl rfl rfl ?_
  refine x_in rfl rfl rfl ?_
  refine x_in rfl rfl rfl ?_
  refine x_in rfl rfl rfl ?_
  refine x_in rfl rfl rfl ?_
  refine x_in rfl rfl rfl ?_
  refine x_top (show _ = Value.int ((1 : Int32)) from congrArg Value.int (by decide)) ?_
  refine x_in rfl rfl rfl ?_
  refine x_top (show _ = Value.int ((160 : Int32)) from congrArg Value.int (by decide)) ?_
  refine x_in rfl rfl rfl ?_
  refine x_in rfl rfl rfl ?_
  refine x_in rfl rfl rfl ?_
  refine x_top (show _ = Value.int ((1 : Int32)) from congrArg Value.int (by decide)) ?_
  refine x_in rfl rfl rfl ?_
  refine x_top (show _ = Value.int ((0 : Int32)) from congrArg Value.int (by decide)) ?_
  refine x_in rfl rfl rfl ?_
  refine x_in rfl rfl rfl ?_
  refine x_in rfl rfl rfl ?_
  refine x_in rfl rfl rfl ?_
  refine x_in rfl rfl rfl ?_
  refine x_in rfl rfl rfl ?_
  refine x_in rfl rfl rfl ?_
  refine x_in rfl rfl rfl ?_
  refine x_in rfl rfl rfl ?_
  refine x_in rfl rfl rfl ?_
  refine x_in rfl rfl rfl ?_
  refine x_top (show _ = Value.int ((8 : Int32)) from congrArg Value.int (by decide)) ?_
  refine x_in rfl rfl rfl ?_
  refine x_in rfl rfl rfl ?_
  refine x_top (show _ = Value.int ((0 : Int32)) from congrArg Value.int (by decide)) ?_
  refine x_in rfl rfl rfl ?_
  refine x_in rfl rfl rfl ?_
  refine x_gen (fun v1 => ?_)
  refine x_in rfl rfl rfl ?_
  refine x_top (show _ = Value.int ((255 : Int32)) from congrArg Value.int (by decide)) ?_
  refine x_in rfl rfl rfl ?_
  refine x_in rfl rfl rfl ?_
  refine x_in rfl rfl rfl ?_
  refine x_in rfl rfl rfl ?_
  refine x_in rfl rfl rfl ?_
  refine x_in rfl rfl rfl ?_
  refine x_in rfl rfl rfl ?_
  refine x_top (show _ = Value.int ((1 : Int32)) from congrArg Value.int (by decide)) ?_
  refine x_in rfl rfl rfl ?_
  refine x_top (show _ = Value.int ((1 : Int32)) from congrArg Value.int (by decide)) ?_
  refine x_in rfl rfl rfl ?_
  refine x_iinc (z := (-1 : Int32)) rfl rfl (by decide) ?_
  refine x_in rfl rfl rfl ?_
  refine x_in rfl rfl rfl ?_
  refine x_in rfl rfl rfl ?_
  refine x_in rfl rfl rfl ?_
  refine x_in rfl rfl rfl ?_
  refine x_in rfl rfl rfl ?_
  refine x_ret rfl rfl ?_
  refine x_in rfl rfl rfl ?_
  refine x_in rfl rfl rfl ?_
  refine x_in rfl rfl rfl ?_
  refine x_in rfl rfl rfl ?_
  refine x_top (show _ = Value.int ((1 : Int32)) from congrArg Value.int (by decide)) ?_
  refine x_in rfl rfl rfl ?_
  refine x_top (show _ = Value.int ((1 : Int32)) from congrArg Value.int (by decide)) ?_
  refine x_in rfl rfl rfl ?_
  refine x_in rfl rfl rfl ?_
  refine x_in rfl rfl rfl ?_
  refine x_top (show _ = Value.int ((32 : Int32)) from congrArg Value.int (by decide)) ?_
  refine x_in rfl rfl rfl ?_
  refine x_in rfl rfl rfl ?_
  refine x_in rfl rfl rfl ?_
  refine x_in rfl rfl rfl ?_
  refine x_top (show _ = Value.int ((2 : Int32)) from congrArg Value.int (by decide)) ?_
  refine x_in rfl rfl rfl ?_
  refine x_top (show _ = Value.int ((2 : Int32)) from congrArg Value.int (by decide)) ?_
  refine x_in rfl rfl rfl ?_
  refine x_in rfl rfl rfl ?_
  refine x_in rfl rfl rfl ?_
  refine x_in rfl rfl rfl ?_
  refine x_in rfl rfl rfl ?_
  refine x_in rfl rfl rfl ?_
  refine x_in rfl rfl rfl ?_
  refine x_in rfl rfl rfl ?_
  refine x_top (show _ = Value.int ((3 : Int32)) from congrArg Value.int (by decide)) ?_
  refine x_in rfl rfl rfl ?_
  refine x_top (show _ = Value.int ((3 : Int32)) from congrArg Value.int (by decide)) ?_
  refine x_in rfl rfl rfl ?_
  refine x_cV rfl rfl rfl rfl ⟨rfl, (Nat.le_of_ble_eq_true rfl), (Nat.le_of_ble_eq_true rfl)⟩ (x_enter (Nat.le_of_ble_eq_true rfl) ?_)
  refine x_in rfl rfl rfl ?_
  refine x_in rfl rfl rfl ?_
  refine x_top (show _ = Value.int ((1 : Int32)) from congrArg Value.int (by decide)) ?_
  refine x_in rfl rfl rfl ?_
  refine x_top (show _ = Value.int ((8 : Int32)) from congrArg Value.int (by decide)) ?_
  refine x_cS rfl (by decide) rfl rfl ⟨(Nat.le_of_ble_eq_true rfl), (Nat.le_of_ble_eq_true rfl)⟩ (x_enter (Nat.le_of_ble_eq_true rfl) ?_)
  refine x_in rfl rfl rfl ?_
  refine x_in rfl rfl rfl ?_
  refine x_in rfl rfl rfl ?_
  refine x_in rfl rfl rfl ?_
  refine x_in rfl rfl rfl ?_
  refine x_in rfl rfl rfl ?_
  refine x_in rfl rfl rfl ?_
  refine x_top (show _ = Value.int ((1 : Int32)) from congrArg Value.int (by decide)) ?_
  refine x_in rfl rfl rfl ?_
  refine x_ret rfl rfl ?_
  refine x_in rfl rfl rfl ?_
  refine x_in rfl rfl rfl ?_
  refine x_in rfl rfl rfl ?_
  refine x_in rfl rfl rfl ?_
  refine x_top (show _ = Value.int ((6 : Int32)) from congrArg Value.int (by decide)) ?_
  refine x_in rfl rfl rfl ?_
  refine x_in rfl rfl rfl ?_
  refine x_in rfl rfl rfl ?_
  refine x_top (show _ = Value.int ((1 : Int32)) from congrArg Value.int (by decide)) ?_
  refine x_in rfl rfl rfl ?_
  refine x_top (show _ = Value.int ((160 : Int32)) from congrArg Value.int (by decide)) ?_
  refine x_in rfl rfl rfl ?_
  refine x_in rfl rfl rfl ?_
  refine x_in rfl rfl rfl ?_
  refine x_top (show _ = Value.int ((1 : Int32)) from congrArg Value.int (by decide)) ?_
  refine x_in rfl rfl rfl ?_
  refine x_top (show _ = Value.int ((0 : Int32)) from congrArg Value.int (by decide)) ?_
  refine x_in rfl rfl rfl ?_
  refine x_in rfl rfl rfl ?_
  refine x_in rfl rfl rfl ?_
  refine x_in rfl rfl rfl ?_
  refine x_in rfl rfl rfl ?_
  refine x_in rfl rfl rfl ?_
  refine x_top (show _ = Value.int ((10 : Int32)) from congrArg Value.int (by decide)) ?_
  refine x_in rfl rfl rfl ?_
  refine x_in rfl rfl rfl ?_
  refine x_in rfl rfl rfl ?_
  refine x_top (show _ = Value.int ((6 : Int32)) from congrArg Value.int (by decide)) ?_
  refine x_in rfl rfl rfl ?_
  refine x_in rfl rfl rfl ?_
  refine x_top (show _ = Value.int ((10 : Int32)) from congrArg Value.int (by decide)) ?_
  refine x_in rfl rfl rfl ?_
  refine x_in rfl rfl rfl ?_
  refine x_top (show _ = Value.int ((8 : Int32)) from congrArg Value.int (by decide)) ?_
  refine x_in rfl rfl rfl ?_
  refine x_in rfl rfl rfl ?_
  refine x_top (show _ = Value.int ((0 : Int32)) from congrArg Value.int (by decide)) ?_
  refine x_in rfl rfl rfl ?_
  refine x_in rfl rfl rfl ?_
  refine x_in rfl rfl rfl ?_
  refine x_in rfl rfl rfl ?_
  refine x_gen (fun v2 => ?_)
  refine x_in rfl rfl rfl ?_
  refine x_in rfl rfl rfl ?_
  refine x_in rfl rfl rfl ?_
  refine x_in rfl rfl rfl ?_
  refine x_top (show _ = Value.int ((6 : Int32)) from congrArg Value.int (by decide)) ?_
  refine x_in rfl rfl rfl ?_
  refine x_in rfl rfl rfl ?_
  refine x_in rfl rfl rfl ?_
  refine x_top (show _ = Value.int ((1 : Int32)) from congrArg Value.int (by decide)) ?_
  refine x_in rfl rfl rfl ?_
  refine x_top (show _ = Value.int ((1 : Int32)) from congrArg Value.int (by decide)) ?_
  refine x_in rfl rfl rfl ?_
  refine x_hs0 ?_
  refine x_iinc (z := (-1 : Int32)) rfl rfl (by decide) ?_
  refine x_in rfl rfl rfl ?_
  refine x_in rfl rfl rfl ?_
  refine x_in rfl rfl rfl ?_
  refine x_in rfl rfl rfl ?_
  refine x_in rfl rfl rfl ?_
  refine x_in rfl rfl rfl ?_
  refine x_top (show _ = Value.int ((6 : Int32)) from congrArg Value.int (by decide)) ?_
  refine x_in rfl rfl rfl ?_
  refine x_ret rfl rfl ?_
  refine x_in rfl rfl rfl ?_
  refine x_iinc (z := (6 : Int32)) rfl rfl (by decide) ?_
  refine x_in rfl rfl rfl ?_
  refine x_in rfl rfl rfl ?_
  refine x_in rfl rfl rfl ?_
  refine x_in rfl rfl rfl ?_
  refine x_top (show _ = Value.int ((6 : Int32)) from rfl) ?_
  refine x_in rfl rfl rfl ?_
  refine x_top (show _ = Value.int ((6 : Int32)) from congrArg Value.int (by decide)) ?_
  refine x_in rfl rfl rfl ?_
  refine x_top (show _ = Value.int ((0 : Int32)) from congrArg Value.int (by decide)) ?_
  refine x_in rfl rfl rfl ?_
  refine x_in rfl rfl rfl ?_
  refine x_top (show _ = Value.int ((1 : Int32)) from congrArg Value.int (by decide)) ?_
  refine x_ret rfl rfl ?_
  exact ⟨rfl, by decide, by decide⟩
set_option maxRecDepth 100000 in
set_option maxHeartbeats 4000000 in
theorem c_0_2 (n : Nat) (c a1 a2 a4 a5 : Int32) : x_E (m_X [c, a1, a2, 2, a4, a5]) 60 181 193 11164 (n + 300) 156 [(3, .int 0), (2, .ref 170), (1, .ref 0), (0, .ref 1000000)] [] m_h0 lK := by
  refine x_in rfl rfl rfl ?_
  refine x_in rfl rfl rfl ?_
  refine x_in rfl rfl rfl ?_
  refine x_in rfl rfl rfl ?_
  refine x_top (show _ = Value.int ((1 : Int32)) from congrArg Value.int (by decide)) ?_
  refine x_in rfl rfl rfl ?_
  refine x_top (show _ = Value.int ((1 : Int32)) from congrArg Value.int (by decide)) ?_
  refine x_in rfl rfl rfl ?_
  refine x_in rfl rfl rfl ?_
  refine x_in rfl rfl rfl ?_
  refine x_top (show _ = Value.int ((32 : Int32)) from congrArg Value.int (by decide)) ?_
  refine x_in rfl rfl rfl ?_
  refine x_in rfl rfl rfl ?_
  refine x_in rfl rfl rfl ?_
  refine x_in rfl rfl rfl ?_
  refine x_top (show _ = Value.int ((2 : Int32)) from congrArg Value.int (by decide)) ?_
  refine x_in rfl rfl rfl ?_
  refine x_top (show _ = Value.int ((2 : Int32)) from congrArg Value.int (by decide)) ?_
  refine x_in rfl rfl rfl ?_
  refine x_in rfl rfl rfl ?_
  refine x_in rfl rfl rfl ?_
  refine x_in rfl rfl rfl ?_
  refine x_in rfl rfl rfl ?_
  refine x_in rfl rfl rfl ?_
  refine x_in rfl rfl rfl ?_
  refine x_in rfl rfl rfl ?_
  refine x_top (show _ = Value.int ((3 : Int32)) from congrArg Value.int (by decide)) ?_
  refine x_in rfl rfl rfl ?_
  refine x_top (show _ = Value.int ((3 : Int32)) from congrArg Value.int (by decide)) ?_
  refine x_in rfl rfl rfl ?_
  refine x_cV rfl rfl rfl rfl ⟨rfl, (Nat.le_of_ble_eq_true rfl), (Nat.le_of_ble_eq_true rfl)⟩ (x_enter (Nat.le_of_ble_eq_true rfl) ?_)
  refine x_in rfl rfl rfl ?_
  refine x_in rfl rfl rfl ?_
  refine x_top (show _ = Value.int ((1 : Int32)) from congrArg Value.int (by decide)) ?_
  refine x_in rfl rfl rfl ?_
  refine x_in rfl rfl rfl ?_
  refine x_in rfl rfl rfl ?_
  refine x_top (show _ = Value.int ((8 : Int32)) from congrArg Value.int (by decide)) ?_
  refine x_in rfl rfl rfl ?_
  refine x_in rfl rfl rfl ?_
  refine x_in rfl rfl rfl ?_
  refine x_in rfl rfl rfl ?_
  refine x_in rfl rfl rfl ?_
  refine x_in rfl rfl rfl ?_
  refine x_top (show _ = Value.int ((2 : Int32)) from congrArg Value.int (by decide)) ?_
  refine x_in rfl rfl rfl ?_
  refine x_top (show _ = Value.int ((160 : Int32)) from congrArg Value.int (by decide)) ?_
  refine x_in rfl rfl rfl ?_
  refine x_in rfl rfl rfl ?_
  refine x_in rfl rfl rfl ?_
  refine x_top (show _ = Value.int ((1 : Int32)) from congrArg Value.int (by decide)) ?_
  refine x_in rfl rfl rfl ?_
  refine x_top (show _ = Value.int ((1 : Int32)) from congrArg Value.int (by decide)) ?_
  refine x_in rfl rfl rfl ?_
  refine x_in rfl rfl rfl ?_
  refine x_in rfl rfl rfl ?_
  refine x_in rfl rfl rfl ?_
  refine x_in rfl rfl rfl ?_
  refine x_in rfl rfl rfl ?_
  refine x_in rfl rfl rfl ?_
  refine x_in rfl rfl rfl ?_
  refine x_in rfl rfl rfl ?_
  refine x_in rfl rfl rfl ?_
  refine x_in rfl rfl rfl ?_
  refine x_top (show _ = Value.int ((8 : Int32)) from congrArg Value.int (by decide)) ?_
  refine x_in rfl rfl rfl ?_
  refine x_in rfl rfl rfl ?_
  refine x_top (show _ = Value.int ((8 : Int32)) from congrArg Value.int (by decide)) ?_
  refine x_in rfl rfl rfl ?_
  refine x_in rfl rfl rfl ?_
  refine x_gen (fun v1 => ?_)
  refine x_in rfl rfl rfl ?_
  refine x_top (show _ = Value.int ((255 : Int32)) from congrArg Value.int (by decide)) ?_
  refine x_in rfl rfl rfl ?_
  refine x_in rfl rfl rfl ?_
  refine x_in rfl rfl rfl ?_
  refine x_in rfl rfl rfl ?_
  refine x_in rfl rfl rfl ?_
  refine x_in rfl rfl rfl ?_
  refine x_in rfl rfl rfl ?_
  refine x_top (show _ = Value.int ((1 : Int32)) from congrArg Value.int (by decide)) ?_
  refine x_in rfl rfl rfl ?_
  refine x_top (show _ = Value.int ((1 : Int32)) from congrArg Value.int (by decide)) ?_
  refine x_in rfl rfl rfl ?_
  refine x_iinc (z := (0 : Int32)) rfl rfl (by decide) ?_
  refine x_in rfl rfl rfl ?_
  refine x_in rfl rfl rfl ?_
  refine x_in rfl rfl rfl ?_
  refine x_in rfl rfl rfl ?_
  refine x_in rfl rfl rfl ?_
  refine x_in rfl rfl rfl ?_
  refine x_in rfl rfl rfl ?_
  refine x_in rfl rfl rfl ?_
  refine x_in rfl rfl rfl ?_
  refine x_in rfl rfl rfl ?_
  refine x_in rfl rfl rfl ?_
  refine x_top (show _ = Value.int ((8 : Int32)) from congrArg Value.int (by decide)) ?_
  refine x_in rfl rfl rfl ?_
  refine x_in rfl rfl rfl ?_
  refine x_top (show _ = Value.int ((0 : Int32)) from congrArg Value.int (by decide)) ?_
  refine x_in rfl rfl rfl ?_
  refine x_in rfl rfl rfl ?_
  refine x_gen (fun v2 => ?_)
  refine x_in rfl rfl rfl ?_
  refine x_top (show _ = Value.int ((255 : Int32)) from congrArg Value.int (by decide)) ?_
  refine x_in rfl rfl rfl ?_
  refine x_in rfl rfl rfl ?_
  refine x_hs1 (by decide) ?_
  refine x_in rfl rfl rfl ?_
  refine x_in rfl rfl rfl ?_
  refine x_in rfl rfl rfl ?_
  refine x_in rfl rfl rfl ?_
  refine x_in rfl rfl rfl ?_
  refine x_top (show _ = Value.int ((1 : Int32)) from congrArg Value.int (by decide)) ?_
  refine x_in rfl rfl rfl ?_
  refine x_top (show _ = Value.int ((2 : Int32)) from congrArg Value.int (by decide)) ?_
  refine x_in rfl rfl rfl ?_
  refine x_hs0 ?_
  refine x_iinc (z := (-1 : Int32)) rfl rfl (by decide) ?_
  refine x_in rfl rfl rfl ?_
  refine x_in rfl rfl rfl ?_
  refine x_in rfl rfl rfl ?_
  refine x_in rfl rfl rfl ?_
  refine x_in rfl rfl rfl ?_
  refine x_in rfl rfl rfl ?_
  refine x_ret rfl rfl ?_
  refine x_in rfl rfl rfl ?_
  refine x_in rfl rfl rfl ?_
  refine x_in rfl rfl rfl ?_
  refine x_in rfl rfl rfl ?_
  refine x_top (show _ = Value.int ((1 : Int32)) from congrArg Value.int (by decide)) ?_
  refine x_in rfl rfl rfl ?_
  refine x_top (show _ = Value.int ((1 : Int32)) from congrArg Value.int (by decide)) ?_
  refine x_in rfl rfl rfl ?_
  refine x_in rfl rfl rfl ?_
  refine x_in rfl rfl rfl ?_
  refine x_top (show _ = Value.int ((32 : Int32)) from congrArg Value.int (by decide)) ?_
  refine x_in rfl rfl rfl ?_
  refine x_in rfl rfl rfl ?_
  refine x_in rfl rfl rfl ?_
  refine x_in rfl rfl rfl ?_
  refine x_top (show _ = Value.int ((2 : Int32)) from congrArg Value.int (by decide)) ?_
  refine x_in rfl rfl rfl ?_
  refine x_top (show _ = Value.int ((2 : Int32)) from congrArg Value.int (by decide)) ?_
  refine x_in rfl rfl rfl ?_
  refine x_in rfl rfl rfl ?_
  refine x_in rfl rfl rfl ?_
  refine x_in rfl rfl rfl ?_
  refine x_in rfl rfl rfl ?_
  refine x_in rfl rfl rfl ?_
  refine x_in rfl rfl rfl ?_
  refine x_in rfl rfl rfl ?_
  refine x_top (show _ = Value.int ((3 : Int32)) from congrArg Value.int (by decide)) ?_
  refine x_in rfl rfl rfl ?_
  refine x_top (show _ = Value.int ((3 : Int32)) from congrArg Value.int (by decide)) ?_
  refine x_in rfl rfl rfl ?_
  refine x_cV rfl rfl rfl rfl ⟨rfl, (Nat.le_of_ble_eq_true rfl), (Nat.le_of_ble_eq_true rfl)⟩ (x_enter (Nat.le_of_ble_eq_true rfl) ?_)
  refine x_in rfl rfl rfl ?_
  refine x_in rfl rfl rfl ?_
  refine x_top (show _ = Value.int ((1 : Int32)) from congrArg Value.int (by decide)) ?_
  refine x_in rfl rfl rfl ?_
  refine x_top (show _ = Value.int ((8 : Int32)) from congrArg Value.int (by decide)) ?_
  refine x_cS rfl (by decide) rfl rfl ⟨(Nat.le_of_ble_eq_true rfl), (Nat.le_of_ble_eq_true rfl)⟩ (x_enter (Nat.le_of_ble_eq_true rfl) ?_)
  refine x_in rfl rfl rfl ?_
  refine x_in rfl rfl rfl ?_
  refine x_in rfl rfl rfl ?_
  refine x_in rfl rfl rfl ?_
  refine x_in rfl rfl rfl ?_
  refine x_in rfl rfl rfl ?_
  refine x_in rfl rfl rfl ?_
  refine x_top (show _ = Value.int ((1 : Int32)) from congrArg Value.int (by decide)) ?_
  refine x_in rfl rfl rfl ?_
  refine x_ret rfl rfl ?_
  refine x_in rfl rfl rfl ?_
  refine x_in rfl rfl rfl ?_
  refine x_in rfl rfl rfl ?_
  refine x_in rfl rfl rfl ?_
  refine x_top (show _ = Value.int ((6 : Int32)) from congrArg Value.int (by decide)) ?_
  refine x_in rfl rfl rfl ?_
  refine x_in rfl rfl rfl ?_
  refine x_in rfl rfl rfl ?_
  refine x_top (show _ = Value.int ((2 : Int32)) from congrArg Value.int (by decide)) ?_
  refine x_in rfl rfl rfl ?_
  refine x_top (show _ = Value.int ((160 : Int32)) from congrArg Value.int (by decide)) ?_
  refine x_in rfl rfl rfl ?_
  refine x_in rfl rfl rfl ?_
  refine x_in rfl rfl rfl ?_
  refine x_top (show _ = Value.int ((1 : Int32)) from congrArg Value.int (by decide)) ?_
  refine x_in rfl rfl rfl ?_
  refine x_top (show _ = Value.int ((1 : Int32)) from congrArg Value.int (by decide)) ?_
  refine x_in rfl rfl rfl ?_
  refine x_in rfl rfl rfl ?_
  refine x_in rfl rfl rfl ?_
  refine x_in rfl rfl rfl ?_
  refine x_in rfl rfl rfl ?_
  refine x_in rfl rfl rfl ?_
  refine x_top (show _ = Value.int ((10 : Int32)) from congrArg Value.int (by decide)) ?_
  refine x_in rfl rfl rfl ?_
  refine x_in rfl rfl rfl ?_
  refine x_in rfl rfl rfl ?_
  refine x_top (show _ = Value.int ((6 : Int32)) from congrArg Value.int (by decide)) ?_
  refine x_in rfl rfl rfl ?_
  refine x_in rfl rfl rfl ?_
  refine x_top (show _ = Value.int ((10 : Int32)) from congrArg Value.int (by decide)) ?_
  refine x_in rfl rfl rfl ?_
  refine x_in rfl rfl rfl ?_
  refine x_top (show _ = Value.int ((8 : Int32)) from congrArg Value.int (by decide)) ?_
  refine x_in rfl rfl rfl ?_
  refine x_in rfl rfl rfl ?_
  refine x_top (show _ = Value.int ((8 : Int32)) from congrArg Value.int (by decide)) ?_
  refine x_in rfl rfl rfl ?_
  refine x_in rfl rfl rfl ?_
  refine x_in rfl rfl rfl ?_
  refine x_in rfl rfl rfl ?_
  refine x_gen (fun v3 => ?_)
  refine x_in rfl rfl rfl ?_
  refine x_in rfl rfl rfl ?_
  refine x_in rfl rfl rfl ?_
  refine x_in rfl rfl rfl ?_
  refine x_top (show _ = Value.int ((6 : Int32)) from congrArg Value.int (by decide)) ?_
  refine x_in rfl rfl rfl ?_
  refine x_in rfl rfl rfl ?_
  refine x_in rfl rfl rfl ?_
  refine x_top (show _ = Value.int ((1 : Int32)) from congrArg Value.int (by decide)) ?_
  refine x_in rfl rfl rfl ?_
  refine x_top (show _ = Value.int ((1 : Int32)) from congrArg Value.int (by decide)) ?_
  refine x_in rfl rfl rfl ?_
  refine x_hs0 ?_
  refine x_iinc (z := (0 : Int32)) rfl rfl (by decide) ?_
  refine x_in rfl rfl rfl ?_
  refine x_in rfl rfl rfl ?_
  refine x_in rfl rfl rfl ?_
  refine x_in rfl rfl rfl ?_
  refine x_in rfl rfl rfl ?_
  refine x_in rfl rfl rfl ?_
  refine x_top (show _ = Value.int ((10 : Int32)) from congrArg Value.int (by decide)) ?_
  refine x_in rfl rfl rfl ?_
  refine x_in rfl rfl rfl ?_
  refine x_in rfl rfl rfl ?_
  refine x_top (show _ = Value.int ((6 : Int32)) from congrArg Value.int (by decide)) ?_
  refine x_in rfl rfl rfl ?_
  refine x_in rfl rfl rfl ?_
  refine x_top (show _ = Value.int ((11 : Int32)) from congrArg Value.int (by decide)) ?_
  refine x_in rfl rfl rfl ?_
  refine x_in rfl rfl rfl ?_
  refine x_top (show _ = Value.int ((8 : Int32)) from congrArg Value.int (by decide)) ?_
  refine x_in rfl rfl rfl ?_
  refine x_in rfl rfl rfl ?_
  refine x_top (show _ = Value.int ((0 : Int32)) from congrArg Value.int (by decide)) ?_
  refine x_in rfl rfl rfl ?_
  refine x_in rfl rfl rfl ?_
  refine x_in rfl rfl rfl ?_
  refine x_in rfl rfl rfl ?_
  refine x_gen (fun v4 => ?_)
  refine x_in rfl rfl rfl ?_
  refine x_hs0 ?_
  refine x_in rfl rfl rfl ?_
  refine x_in rfl rfl rfl ?_
  refine x_in rfl rfl rfl ?_
  refine x_top (show _ = Value.int ((6 : Int32)) from congrArg Value.int (by decide)) ?_
  refine x_in rfl rfl rfl ?_
  refine x_in rfl rfl rfl ?_
  refine x_in rfl rfl rfl ?_
  refine x_top (show _ = Value.int ((1 : Int32)) from congrArg Value.int (by decide)) ?_
  refine x_in rfl rfl rfl ?_
  refine x_top (show _ = Value.int ((2 : Int32)) from congrArg Value.int (by decide)) ?_
  refine x_in rfl rfl rfl ?_
  refine x_hs0 ?_
  refine x_iinc (z := (-1 : Int32)) rfl rfl (by decide) ?_
  refine x_in rfl rfl rfl ?_
  refine x_in rfl rfl rfl ?_
  refine x_in rfl rfl rfl ?_
  refine x_in rfl rfl rfl ?_
  refine x_in rfl rfl rfl ?_
  refine x_in rfl rfl rfl ?_
  refine x_top (show _ = Value.int ((6 : Int32)) from congrArg Value.int (by decide)) ?_
  refine x_in rfl rfl rfl ?_
  refine x_ret rfl rfl ?_
  refine x_in rfl rfl rfl ?_
  refine x_iinc (z := (6 : Int32)) rfl rfl (by decide) ?_
  refine x_in rfl rfl rfl ?_
  refine x_in rfl rfl rfl ?_
  refine x_in rfl rfl rfl ?_
  refine x_in rfl rfl rfl ?_
  refine x_top (show _ = Value.int ((6 : Int32)) from rfl) ?_
  refine x_in rfl rfl rfl ?_
  refine x_top (show _ = Value.int ((6 : Int32)) from congrArg Value.int (by decide)) ?_
  refine x_in rfl rfl rfl ?_
  refine x_top (show _ = Value.int ((0 : Int32)) from congrArg Value.int (by decide)) ?_
  refine x_in rfl rfl rfl ?_
  refine x_in rfl rfl rfl ?_
  refine x_top (show _ = Value.int ((1 : Int32)) from congrArg Value.int (by decide)) ?_
  refine x_ret rfl rfl ?_
  exact ⟨rfl, by decide, by decide⟩
set_option maxRecDepth 100000 in
set_option maxHeartbeats 4000000 in
theorem c_0_3 (n : Nat) (c a1 a2 a4 a5 : Int32) : x_E (m_X [c, a1, a2, 3, a4, a5]) 60 181 193 11164 (n + 300) 156 [(3, .int 0), (2, .ref 170), (1, .ref 0), (0, .ref 1000000)] [] m_h0 lK := by
  refine x_in rfl rfl rfl ?_
  refine x_in rfl rfl rfl ?_
  refine x_in rfl rfl rfl ?_
  refine x_in rfl rfl rfl ?_
  refine x_top (show _ = Value.int ((1 : Int32)) from congrArg Value.int (by decide)) ?_
  refine x_in rfl rfl rfl ?_
  refine x_top (show _ = Value.int ((1 : Int32)) from congrArg Value.int (by decide)) ?_
  refine x_in rfl rfl rfl ?_
  refine x_in rfl rfl rfl ?_
  refine x_in rfl rfl rfl ?_
  refine x_top (show _ = Value.int ((32 : Int32)) from congrArg Value.int (by decide)) ?_
  refine x_in rfl rfl rfl ?_
  refine x_in rfl rfl rfl ?_
  refine x_in rfl rfl rfl ?_
  refine x_in rfl rfl rfl ?_
  refine x_top (show _ = Value.int ((2 : Int32)) from congrArg Value.int (by decide)) ?_
  refine x_in rfl rfl rfl ?_
  refine x_top (show _ = Value.int ((2 : Int32)) from congrArg Value.int (by decide)) ?_
  refine x_in rfl rfl rfl ?_
  refine x_in rfl rfl rfl ?_
  refine x_in rfl rfl rfl ?_
  refine x_in rfl rfl rfl ?_
  refine x_in rfl rfl rfl ?_
  refine x_in rfl rfl rfl ?_
  refine x_in rfl rfl rfl ?_
  refine x_in rfl rfl rfl ?_
  refine x_top (show _ = Value.int ((3 : Int32)) from congrArg Value.int (by decide)) ?_
  refine x_in rfl rfl rfl ?_
  refine x_top (show _ = Value.int ((3 : Int32)) from congrArg Value.int (by decide)) ?_
  refine x_in rfl rfl rfl ?_
  refine x_cV rfl rfl rfl rfl ⟨rfl, (Nat.le_of_ble_eq_true rfl), (Nat.le_of_ble_eq_true rfl)⟩ (x_enter (Nat.le_of_ble_eq_true rfl) ?_)
  refine x_in rfl rfl rfl ?_
  refine x_in rfl rfl rfl ?_
  refine x_top (show _ = Value.int ((1 : Int32)) from congrArg Value.int (by decide)) ?_
  refine x_in rfl rfl rfl ?_
  refine x_in rfl rfl rfl ?_
  refine x_in rfl rfl rfl ?_
  refine x_top (show _ = Value.int ((8 : Int32)) from congrArg Value.int (by decide)) ?_
  refine x_in rfl rfl rfl ?_
  refine x_in rfl rfl rfl ?_
  refine x_in rfl rfl rfl ?_
  refine x_in rfl rfl rfl ?_
  refine x_in rfl rfl rfl ?_
  refine x_in rfl rfl rfl ?_
  refine x_top (show _ = Value.int ((3 : Int32)) from congrArg Value.int (by decide)) ?_
  refine x_in rfl rfl rfl ?_
  refine x_top (show _ = Value.int ((160 : Int32)) from congrArg Value.int (by decide)) ?_
  refine x_in rfl rfl rfl ?_
  refine x_in rfl rfl rfl ?_
  refine x_in rfl rfl rfl ?_
  refine x_top (show _ = Value.int ((1 : Int32)) from congrArg Value.int (by decide)) ?_
  refine x_in rfl rfl rfl ?_
  refine x_top (show _ = Value.int ((2 : Int32)) from congrArg Value.int (by decide)) ?_
  refine x_in rfl rfl rfl ?_
  refine x_in rfl rfl rfl ?_
  refine x_in rfl rfl rfl ?_
  refine x_in rfl rfl rfl ?_
  refine x_in rfl rfl rfl ?_
  refine x_in rfl rfl rfl ?_
  refine x_in rfl rfl rfl ?_
  refine x_in rfl rfl rfl ?_
  refine x_in rfl rfl rfl ?_
  refine x_in rfl rfl rfl ?_
  refine x_in rfl rfl rfl ?_
  refine x_top (show _ = Value.int ((8 : Int32)) from congrArg Value.int (by decide)) ?_
  refine x_in rfl rfl rfl ?_
  refine x_in rfl rfl rfl ?_
  refine x_top (show _ = Value.int ((16 : Int32)) from congrArg Value.int (by decide)) ?_
  refine x_in rfl rfl rfl ?_
  refine x_in rfl rfl rfl ?_
  refine x_gen (fun v1 => ?_)
  refine x_in rfl rfl rfl ?_
  refine x_top (show _ = Value.int ((255 : Int32)) from congrArg Value.int (by decide)) ?_
  refine x_in rfl rfl rfl ?_
  refine x_in rfl rfl rfl ?_
  refine x_in rfl rfl rfl ?_
  refine x_in rfl rfl rfl ?_
  refine x_in rfl rfl rfl ?_
  refine x_in rfl rfl rfl ?_
  refine x_in rfl rfl rfl ?_
  refine x_top (show _ = Value.int ((1 : Int32)) from congrArg Value.int (by decide)) ?_
  refine x_in rfl rfl rfl ?_
  refine x_top (show _ = Value.int ((1 : Int32)) from congrArg Value.int (by decide)) ?_
  refine x_in rfl rfl rfl ?_
  refine x_iinc (z := (1 : Int32)) rfl rfl (by decide) ?_
  refine x_in rfl rfl rfl ?_
  refine x_in rfl rfl rfl ?_
  refine x_in rfl rfl rfl ?_
  refine x_in rfl rfl rfl ?_
  refine x_in rfl rfl rfl ?_
  refine x_in rfl rfl rfl ?_
  refine x_in rfl rfl rfl ?_
  refine x_in rfl rfl rfl ?_
  refine x_in rfl rfl rfl ?_
  refine x_in rfl rfl rfl ?_
  refine x_in rfl rfl rfl ?_
  refine x_top (show _ = Value.int ((8 : Int32)) from congrArg Value.int (by decide)) ?_
  refine x_in rfl rfl rfl ?_
  refine x_in rfl rfl rfl ?_
  refine x_top (show _ = Value.int ((8 : Int32)) from congrArg Value.int (by decide)) ?_
  refine x_in rfl rfl rfl ?_
  refine x_in rfl rfl rfl ?_
  refine x_gen (fun v2 => ?_)
  refine x_in rfl rfl rfl ?_
  refine x_top (show _ = Value.int ((255 : Int32)) from congrArg Value.int (by decide)) ?_
  refine x_in rfl rfl rfl ?_
  refine x_in rfl rfl rfl ?_
  refine x_hs1 (by decide) ?_
  refine x_in rfl rfl rfl ?_
  refine x_in rfl rfl rfl ?_
  refine x_in rfl rfl rfl ?_
  refine x_in rfl rfl rfl ?_
  refine x_in rfl rfl rfl ?_
  refine x_top (show _ = Value.int ((1 : Int32)) from congrArg Value.int (by decide)) ?_
  refine x_in rfl rfl rfl ?_
  refine x_top (show _ = Value.int ((2 : Int32)) from congrArg Value.int (by decide)) ?_
  refine x_in rfl rfl rfl ?_
  refine x_hs0 ?_
  refine x_iinc (z := (0 : Int32)) rfl rfl (by decide) ?_
  refine x_in rfl rfl rfl ?_
  refine x_in rfl rfl rfl ?_
  refine x_in rfl rfl rfl ?_
  refine x_in rfl rfl rfl ?_
  refine x_in rfl rfl rfl ?_
  refine x_in rfl rfl rfl ?_
  refine x_in rfl rfl rfl ?_
  refine x_in rfl rfl rfl ?_
  refine x_in rfl rfl rfl ?_
  refine x_in rfl rfl rfl ?_
  refine x_in rfl rfl rfl ?_
  refine x_top (show _ = Value.int ((8 : Int32)) from congrArg Value.int (by decide)) ?_
  refine x_in rfl rfl rfl ?_
  refine x_in rfl rfl rfl ?_
  refine x_top (show _ = Value.int ((0 : Int32)) from congrArg Value.int (by decide)) ?_
  refine x_in rfl rfl rfl ?_
  refine x_in rfl rfl rfl ?_
  refine x_gen (fun v3 => ?_)
  refine x_in rfl rfl rfl ?_
  refine x_top (show _ = Value.int ((255 : Int32)) from congrArg Value.int (by decide)) ?_
  refine x_in rfl rfl rfl ?_
  refine x_in rfl rfl rfl ?_
  refine x_hs1 (by decide) ?_
  refine x_in rfl rfl rfl ?_
  refine x_in rfl rfl rfl ?_
  refine x_in rfl rfl rfl ?_
  refine x_in rfl rfl rfl ?_
  refine x_in rfl rfl rfl ?_
  refine x_top (show _ = Value.int ((1 : Int32)) from congrArg Value.int (by decide)) ?_
  refine x_in rfl rfl rfl ?_
  refine x_top (show _ = Value.int ((3 : Int32)) from congrArg Value.int (by decide)) ?_
  refine x_in rfl rfl rfl ?_
  refine x_hs0 ?_
  refine x_iinc (z := (-1 : Int32)) rfl rfl (by decide) ?_
  refine x_in rfl rfl rfl ?_
  refine x_in rfl rfl rfl ?_
  refine x_in rfl rfl rfl ?_
  refine x_in rfl rfl rfl ?_
  refine x_in rfl rfl rfl ?_
  refine x_in rfl rfl rfl ?_
  refine x_ret rfl rfl ?_
  refine x_in rfl rfl rfl ?_
  refine x_in rfl rfl rfl ?_
  refine x_in rfl rfl rfl ?_
  refine x_in rfl rfl rfl ?_
  refine x_top (show _ = Value.int ((1 : Int32)) from congrArg Value.int (by decide)) ?_
  refine x_in rfl rfl rfl ?_
  refine x_top (show _ = Value.int ((1 : Int32)) from congrArg Value.int (by decide)) ?_
  refine x_in rfl rfl rfl ?_
  refine x_in rfl rfl rfl ?_
  refine x_in rfl rfl rfl ?_
  refine x_top (show _ = Value.int ((32 : Int32)) from congrArg Value.int (by decide)) ?_
  refine x_in rfl rfl rfl ?_
  refine x_in rfl rfl rfl ?_
  refine x_in rfl rfl rfl ?_
  refine x_in rfl rfl rfl ?_
  refine x_top (show _ = Value.int ((2 : Int32)) from congrArg Value.int (by decide)) ?_
  refine x_in rfl rfl rfl ?_
  refine x_top (show _ = Value.int ((2 : Int32)) from congrArg Value.int (by decide)) ?_
  refine x_in rfl rfl rfl ?_
  refine x_in rfl rfl rfl ?_
  refine x_in rfl rfl rfl ?_
  refine x_in rfl rfl rfl ?_
  refine x_in rfl rfl rfl ?_
  refine x_in rfl rfl rfl ?_
  refine x_in rfl rfl rfl ?_
  refine x_in rfl rfl rfl ?_
  refine x_top (show _ = Value.int ((3 : Int32)) from congrArg Value.int (by decide)) ?_
  refine x_in rfl rfl rfl ?_
  refine x_top (show _ = Value.int ((3 : Int32)) from congrArg Value.int (by decide)) ?_
  refine x_in rfl rfl rfl ?_
  refine x_cV rfl rfl rfl rfl ⟨rfl, (Nat.le_of_ble_eq_true rfl), (Nat.le_of_ble_eq_true rfl)⟩ (x_enter (Nat.le_of_ble_eq_true rfl) ?_)
  refine x_in rfl rfl rfl ?_
  refine x_in rfl rfl rfl ?_
  refine x_top (show _ = Value.int ((1 : Int32)) from congrArg Value.int (by decide)) ?_
  refine x_in rfl rfl rfl ?_
  refine x_top (show _ = Value.int ((8 : Int32)) from congrArg Value.int (by decide)) ?_
  refine x_cS rfl (by decide) rfl rfl ⟨(Nat.le_of_ble_eq_true rfl), (Nat.le_of_ble_eq_true rfl)⟩ (x_enter (Nat.le_of_ble_eq_true rfl) ?_)
  refine x_in rfl rfl rfl ?_
  refine x_in rfl rfl rfl ?_
  refine x_in rfl rfl rfl ?_
  refine x_in rfl rfl rfl ?_
  refine x_in rfl rfl rfl ?_
  refine x_in rfl rfl rfl ?_
  refine x_in rfl rfl rfl ?_
  refine x_top (show _ = Value.int ((1 : Int32)) from congrArg Value.int (by decide)) ?_
  refine x_in rfl rfl rfl ?_
  refine x_ret rfl rfl ?_
  refine x_in rfl rfl rfl ?_
  refine x_in rfl rfl rfl ?_
  refine x_in rfl rfl rfl ?_
  refine x_in rfl rfl rfl ?_
  refine x_top (show _ = Value.int ((6 : Int32)) from congrArg Value.int (by decide)) ?_
  refine x_in rfl rfl rfl ?_
  refine x_in rfl rfl rfl ?_
  refine x_in rfl rfl rfl ?_
  refine x_top (show _ = Value.int ((3 : Int32)) from congrArg Value.int (by decide)) ?_
  refine x_in rfl rfl rfl ?_
  refine x_top (show _ = Value.int ((160 : Int32)) from congrArg Value.int (by decide)) ?_
  refine x_in rfl rfl rfl ?_
  refine x_in rfl rfl rfl ?_
  refine x_in rfl rfl rfl ?_
  refine x_top (show _ = Value.int ((1 : Int32)) from congrArg Value.int (by decide)) ?_
  refine x_in rfl rfl rfl ?_
  refine x_top (show _ = Value.int ((2 : Int32)) from congrArg Value.int (by decide)) ?_
  refine x_in rfl rfl rfl ?_
  refine x_in rfl rfl rfl ?_
  refine x_in rfl rfl rfl ?_
  refine x_in rfl rfl rfl ?_
  refine x_in rfl rfl rfl ?_
  refine x_in rfl rfl rfl ?_
  refine x_top (show _ = Value.int ((10 : Int32)) from congrArg Value.int (by decide)) ?_
  refine x_in rfl rfl rfl ?_
  refine x_in rfl rfl rfl ?_
  refine x_in rfl rfl rfl ?_
  refine x_top (show _ = Value.int ((6 : Int32)) from congrArg Value.int (by decide)) ?_
  refine x_in rfl rfl rfl ?_
  refine x_in rfl rfl rfl ?_
  refine x_top (show _ = Value.int ((10 : Int32)) from congrArg Value.int (by decide)) ?_
  refine x_in rfl rfl rfl ?_
  refine x_in rfl rfl rfl ?_
  refine x_top (show _ = Value.int ((8 : Int32)) from congrArg Value.int (by decide)) ?_
  refine x_in rfl rfl rfl ?_
  refine x_in rfl rfl rfl ?_
  refine x_top (show _ = Value.int ((16 : Int32)) from congrArg Value.int (by decide)) ?_
  refine x_in rfl rfl rfl ?_
  refine x_in rfl rfl rfl ?_
  refine x_in rfl rfl rfl ?_
  refine x_in rfl rfl rfl ?_
  refine x_gen (fun v4 => ?_)
  refine x_in rfl rfl rfl ?_
  refine x_in rfl rfl rfl ?_
  refine x_in rfl rfl rfl ?_
  refine x_in rfl rfl rfl ?_
  refine x_top (show _ = Value.int ((6 : Int32)) from congrArg Value.int (by decide)) ?_
  refine x_in rfl rfl rfl ?_
  refine x_in rfl rfl rfl ?_
  refine x_in rfl rfl rfl ?_
  refine x_top (show _ = Value.int ((1 : Int32)) from congrArg Value.int (by decide)) ?_
  refine x_in rfl rfl rfl ?_
  refine x_top (show _ = Value.int ((1 : Int32)) from congrArg Value.int (by decide)) ?_
  refine x_in rfl rfl rfl ?_
  refine x_hs0 ?_
  refine x_iinc (z := (1 : Int32)) rfl rfl (by decide) ?_
  refine x_in rfl rfl rfl ?_
  refine x_in rfl rfl rfl ?_
  refine x_in rfl rfl rfl ?_
  refine x_in rfl rfl rfl ?_
  refine x_in rfl rfl rfl ?_
  refine x_in rfl rfl rfl ?_
  refine x_top (show _ = Value.int ((10 : Int32)) from congrArg Value.int (by decide)) ?_
  refine x_in rfl rfl rfl ?_
  refine x_in rfl rfl rfl ?_
  refine x_in rfl rfl rfl ?_
  refine x_top (show _ = Value.int ((6 : Int32)) from congrArg Value.int (by decide)) ?_
  refine x_in rfl rfl rfl ?_
  refine x_in rfl rfl rfl ?_
  refine x_top (show _ = Value.int ((11 : Int32)) from congrArg Value.int (by decide)) ?_
  refine x_in rfl rfl rfl ?_
  refine x_in rfl rfl rfl ?_
  refine x_top (show _ = Value.int ((8 : Int32)) from congrArg Value.int (by decide)) ?_
  refine x_in rfl rfl rfl ?_
  refine x_in rfl rfl rfl ?_
  refine x_top (show _ = Value.int ((8 : Int32)) from congrArg Value.int (by decide)) ?_
  refine x_in rfl rfl rfl ?_
  refine x_in rfl rfl rfl ?_
  refine x_in rfl rfl rfl ?_
  refine x_in rfl rfl rfl ?_
  refine x_gen (fun v5 => ?_)
  refine x_in rfl rfl rfl ?_
  refine x_hs0 ?_
  refine x_in rfl rfl rfl ?_
  refine x_in rfl rfl rfl ?_
  refine x_in rfl rfl rfl ?_
  refine x_top (show _ = Value.int ((6 : Int32)) from congrArg Value.int (by decide)) ?_
  refine x_in rfl rfl rfl ?_
  refine x_in rfl rfl rfl ?_
  refine x_in rfl rfl rfl ?_
  refine x_top (show _ = Value.int ((1 : Int32)) from congrArg Value.int (by decide)) ?_
  refine x_in rfl rfl rfl ?_
  refine x_top (show _ = Value.int ((2 : Int32)) from congrArg Value.int (by decide)) ?_
  refine x_in rfl rfl rfl ?_
  refine x_hs0 ?_
  refine x_iinc (z := (0 : Int32)) rfl rfl (by decide) ?_
  refine x_in rfl rfl rfl ?_
  refine x_in rfl rfl rfl ?_
  refine x_in rfl rfl rfl ?_
  refine x_in rfl rfl rfl ?_
  refine x_in rfl rfl rfl ?_
  refine x_in rfl rfl rfl ?_
  refine x_top (show _ = Value.int ((10 : Int32)) from congrArg Value.int (by decide)) ?_
  refine x_in rfl rfl rfl ?_
  refine x_in rfl rfl rfl ?_
  refine x_in rfl rfl rfl ?_
  refine x_top (show _ = Value.int ((6 : Int32)) from congrArg Value.int (by decide)) ?_
  refine x_in rfl rfl rfl ?_
  refine x_in rfl rfl rfl ?_
  refine x_top (show _ = Value.int ((12 : Int32)) from congrArg Value.int (by decide)) ?_
  refine x_in rfl rfl rfl ?_
  refine x_in rfl rfl rfl ?_
  refine x_top (show _ = Value.int ((8 : Int32)) from congrArg Value.int (by decide)) ?_
  refine x_in rfl rfl rfl ?_
  refine x_in rfl rfl rfl ?_
  refine x_top (show _ = Value.int ((0 : Int32)) from congrArg Value.int (by decide)) ?_
  refine x_in rfl rfl rfl ?_
  refine x_in rfl rfl rfl ?_
  refine x_in rfl rfl rfl ?_
  refine x_in rfl rfl rfl ?_
  refine x_gen (fun v6 => ?_)
  refine x_in rfl rfl rfl ?_
  refine x_hs0 ?_
  refine x_in rfl rfl rfl ?_
  refine x_in rfl rfl rfl ?_
  refine x_in rfl rfl rfl ?_
  refine x_top (show _ = Value.int ((6 : Int32)) from congrArg Value.int (by decide)) ?_
  refine x_in rfl rfl rfl ?_
  refine x_in rfl rfl rfl ?_
  refine x_in rfl rfl rfl ?_
  refine x_top (show _ = Value.int ((1 : Int32)) from congrArg Value.int (by decide)) ?_
  refine x_in rfl rfl rfl ?_
  refine x_top (show _ = Value.int ((3 : Int32)) from congrArg Value.int (by decide)) ?_
  refine x_in rfl rfl rfl ?_
  refine x_hs0 ?_
  refine x_iinc (z := (-1 : Int32)) rfl rfl (by decide) ?_
  refine x_in rfl rfl rfl ?_
  refine x_in rfl rfl rfl ?_
  refine x_in rfl rfl rfl ?_
  refine x_in rfl rfl rfl ?_
  refine x_in rfl rfl rfl ?_
  refine x_in rfl rfl rfl ?_
  refine x_top (show _ = Value.int ((6 : Int32)) from congrArg Value.int (by decide)) ?_
  refine x_in rfl rfl rfl ?_
  refine x_ret rfl rfl ?_
  refine x_in rfl rfl rfl ?_
  refine x_iinc (z := (6 : Int32)) rfl rfl (by decide) ?_
  refine x_in rfl rfl rfl ?_
  refine x_in rfl rfl rfl ?_
  refine x_in rfl rfl rfl ?_
  refine x_in rfl rfl rfl ?_
  refine x_top (show _ = Value.int ((6 : Int32)) from rfl) ?_
  refine x_in rfl rfl rfl ?_
  refine x_top (show _ = Value.int ((6 : Int32)) from congrArg Value.int (by decide)) ?_
  refine x_in rfl rfl rfl ?_
  refine x_top (show _ = Value.int ((0 : Int32)) from congrArg Value.int (by decide)) ?_
  refine x_in rfl rfl rfl ?_
  refine x_in rfl rfl rfl ?_
  refine x_top (show _ = Value.int ((1 : Int32)) from congrArg Value.int (by decide)) ?_
  refine x_ret rfl rfl ?_
  exact ⟨rfl, by decide, by decide⟩
set_option maxRecDepth 100000 in
set_option maxHeartbeats 4000000 in
theorem c_0_4 (n : Nat) (c a1 a2 a4 a5 : Int32) : x_E (m_X [c, a1, a2, 4, a4, a5]) 60 181 193 11164 (n + 300) 156 [(3, .int 0), (2, .ref 170), (1, .ref 0), (0, .ref 1000000)] [] m_h0 lK := by
  refine x_in rfl rfl rfl ?_
  refine x_in rfl rfl rfl ?_
  refine x_in rfl rfl rfl ?_
  refine x_in rfl rfl rfl ?_
  refine x_top (show _ = Value.int ((1 : Int32)) from congrArg Value.int (by decide)) ?_
  refine x_in rfl rfl rfl ?_
  refine x_top (show _ = Value.int ((1 : Int32)) from congrArg Value.int (by decide)) ?_
  refine x_in rfl rfl rfl ?_
  refine x_in rfl rfl rfl ?_
  refine x_in rfl rfl rfl ?_
  refine x_top (show _ = Value.int ((32 : Int32)) from congrArg Value.int (by decide)) ?_
  refine x_in rfl rfl rfl ?_
  refine x_in rfl rfl rfl ?_
  refine x_in rfl rfl rfl ?_
  refine x_in rfl rfl rfl ?_
  refine x_top (show _ = Value.int ((2 : Int32)) from congrArg Value.int (by decide)) ?_
  refine x_in rfl rfl rfl ?_
  refine x_top (show _ = Value.int ((2 : Int32)) from congrArg Value.int (by decide)) ?_
  refine x_in rfl rfl rfl ?_
  refine x_in rfl rfl rfl ?_
  refine x_in rfl rfl rfl ?_
  refine x_in rfl rfl rfl ?_
  refine x_in rfl rfl rfl ?_
  refine x_in rfl rfl rfl ?_
  refine x_in rfl rfl rfl ?_
  refine x_in rfl rfl rfl ?_
  refine x_top (show _ = Value.int ((3 : Int32)) from congrArg Value.int (by decide)) ?_
  refine x_in rfl rfl rfl ?_
  refine x_top (show _ = Value.int ((3 : Int32)) from congrArg Value.int (by decide)) ?_
  refine x_in rfl rfl rfl ?_
  refine x_cV rfl rfl rfl rfl ⟨rfl, (Nat.le_of_ble_eq_true rfl), (Nat.le_of_ble_eq_true rfl)⟩ (x_enter (Nat.le_of_ble_eq_true rfl) ?_)
  refine x_in rfl rfl rfl ?_
  refine x_in rfl rfl rfl ?_
  refine x_top (show _ = Value.int ((1 : Int32)) from congrArg Value.int (by decide)) ?_
  refine x_in rfl rfl rfl ?_
  refine x_in rfl rfl rfl ?_
  refine x_in rfl rfl rfl ?_
  refine x_top (show _ = Value.int ((8 : Int32)) from congrArg Value.int (by decide)) ?_
  refine x_in rfl rfl rfl ?_
  refine x_in rfl rfl rfl ?_
  refine x_in rfl rfl rfl ?_
  refine x_in rfl rfl rfl ?_
  refine x_in rfl rfl rfl ?_
  refine x_in rfl rfl rfl ?_
  refine x_top (show _ = Value.int ((4 : Int32)) from congrArg Value.int (by decide)) ?_
  refine x_in rfl rfl rfl ?_
  refine x_top (show _ = Value.int ((160 : Int32)) from congrArg Value.int (by decide)) ?_
  refine x_in rfl rfl rfl ?_
  refine x_in rfl rfl rfl ?_
  refine x_in rfl rfl rfl ?_
  refine x_top (show _ = Value.int ((1 : Int32)) from congrArg Value.int (by decide)) ?_
  refine x_in rfl rfl rfl ?_
  refine x_top (show _ = Value.int ((3 : Int32)) from congrArg Value.int (by decide)) ?_
  refine x_in rfl rfl rfl ?_
  refine x_in rfl rfl rfl ?_
  refine x_in rfl rfl rfl ?_
  refine x_in rfl rfl rfl ?_
  refine x_in rfl rfl rfl ?_
  refine x_in rfl rfl rfl ?_
  refine x_in rfl rfl rfl ?_
  refine x_in rfl rfl rfl ?_
  refine x_in rfl rfl rfl ?_
  refine x_in rfl rfl rfl ?_
  refine x_in rfl rfl rfl ?_
  refine x_top (show _ = Value.int ((8 : Int32)) from congrArg Value.int (by decide)) ?_
  refine x_in rfl rfl rfl ?_
  refine x_in rfl rfl rfl ?_
  refine x_top (show _ = Value.int ((24 : Int32)) from congrArg Value.int (by decide)) ?_
  refine x_in rfl rfl rfl ?_
  refine x_in rfl rfl rfl ?_
  refine x_gen (fun v1 => ?_)
  refine x_in rfl rfl rfl ?_
  refine x_top (show _ = Value.int ((255 : Int32)) from congrArg Value.int (by decide)) ?_
  refine x_in rfl rfl rfl ?_
  refine x_in rfl rfl rfl ?_
  refine x_in rfl rfl rfl ?_
  refine x_in rfl rfl rfl ?_
  refine x_in rfl rfl rfl ?_
  refine x_in rfl rfl rfl ?_
  refine x_in rfl rfl rfl ?_
  refine x_top (show _ = Value.int ((1 : Int32)) from congrArg Value.int (by decide)) ?_
  refine x_in rfl rfl rfl ?_
  refine x_top (show _ = Value.int ((1 : Int32)) from congrArg Value.int (by decide)) ?_
  refine x_in rfl rfl rfl ?_
  refine x_iinc (z := (2 : Int32)) rfl rfl (by decide) ?_
  refine x_in rfl rfl rfl ?_
  refine x_in rfl rfl rfl ?_
  refine x_in rfl rfl rfl ?_
  refine x_in rfl rfl rfl ?_
  refine x_in rfl rfl rfl ?_
  refine x_in rfl rfl rfl ?_
  refine x_in rfl rfl rfl ?_
  refine x_in rfl rfl rfl ?_
  refine x_in rfl rfl rfl ?_
  refine x_in rfl rfl rfl ?_
  refine x_in rfl rfl rfl ?_
  refine x_top (show _ = Value.int ((8 : Int32)) from congrArg Value.int (by decide)) ?_
  refine x_in rfl rfl rfl ?_
  refine x_in rfl rfl rfl ?_
  refine x_top (show _ = Value.int ((16 : Int32)) from congrArg Value.int (by decide)) ?_
  refine x_in rfl rfl rfl ?_
  refine x_in rfl rfl rfl ?_
  refine x_gen (fun v2 => ?_)
  refine x_in rfl rfl rfl ?_
  refine x_top (show _ = Value.int ((255 : Int32)) from congrArg Value.int (by decide)) ?_
  refine x_in rfl rfl rfl ?_
  refine x_in rfl rfl rfl ?_
  refine x_hs1 (by decide) ?_
  refine x_in rfl rfl rfl ?_
  refine x_in rfl rfl rfl ?_
  refine x_in rfl rfl rfl ?_
  refine x_in rfl rfl rfl ?_
  refine x_in rfl rfl rfl ?_
  refine x_top (show _ = Value.int ((1 : Int32)) from congrArg Value.int (by decide)) ?_
  refine x_in rfl rfl rfl ?_
  refine x_top (show _ = Value.int ((2 : Int32)) from congrArg Value.int (by decide)) ?_
  refine x_in rfl rfl rfl ?_
  refine x_hs0 ?_
  refine x_iinc (z := (1 : Int32)) rfl rfl (by decide) ?_
  refine x_in rfl rfl rfl ?_
  refine x_in rfl rfl rfl ?_
  refine x_in rfl rfl rfl ?_
  refine x_in rfl rfl rfl ?_
  refine x_in rfl rfl rfl ?_
  refine x_in rfl rfl rfl ?_
  refine x_in rfl rfl rfl ?_
  refine x_in rfl rfl rfl ?_
  refine x_in rfl rfl rfl ?_
  refine x_in rfl rfl rfl ?_
  refine x_in rfl rfl rfl ?_
  refine x_top (show _ = Value.int ((8 : Int32)) from congrArg Value.int (by decide)) ?_
  refine x_in rfl rfl rfl ?_
  refine x_in rfl rfl rfl ?_
  refine x_top (show _ = Value.int ((8 : Int32)) from congrArg Value.int (by decide)) ?_
  refine x_in rfl rfl rfl ?_
  refine x_in rfl rfl rfl ?_
  refine x_gen (fun v3 => ?_)
  refine x_in rfl rfl rfl ?_
  refine x_top (show _ = Value.int ((255 : Int32)) from congrArg Value.int (by decide)) ?_
  refine x_in rfl rfl rfl ?_
  refine x_in rfl rfl rfl ?_
  refine x_hs1 (by decide) ?_
  refine x_in rfl rfl rfl ?_
  refine x_in rfl rfl rfl ?_
  refine x_in rfl rfl rfl ?_
  refine x_in rfl rfl rfl ?_
  refine x_in rfl rfl rfl ?_
  refine x_top (show _ = Value.int ((1 : Int32)) from congrArg Value.int (by decide)) ?_
  refine x_in rfl rfl rfl ?_
  refine x_top (show _ = Value.int ((3 : Int32)) from congrArg Value.int (by decide)) ?_
  refine x_in rfl rfl rfl ?_
  refine x_hs0 ?_
  refine x_iinc (z := (0 : Int32)) rfl rfl (by decide) ?_
  refine x_in rfl rfl rfl ?_
  refine x_in rfl rfl rfl ?_
  refine x_in rfl rfl rfl ?_
  refine x_in rfl rfl rfl ?_
  refine x_in rfl rfl rfl ?_
  refine x_in rfl rfl rfl ?_
  refine x_in rfl rfl rfl ?_
  refine x_in rfl rfl rfl ?_
  refine x_in rfl rfl rfl ?_
  refine x_in rfl rfl rfl ?_
  refine x_in rfl rfl rfl ?_
  refine x_top (show _ = Value.int ((8 : Int32)) from congrArg Value.int (by decide)) ?_
  refine x_in rfl rfl rfl ?_
  refine x_in rfl rfl rfl ?_
  refine x_top (show _ = Value.int ((0 : Int32)) from congrArg Value.int (by decide)) ?_
  refine x_in rfl rfl rfl ?_
  refine x_in rfl rfl rfl ?_
  refine x_gen (fun v4 => ?_)
  refine x_in rfl rfl rfl ?_
  refine x_top (show _ = Value.int ((255 : Int32)) from congrArg Value.int (by decide)) ?_
  refine x_in rfl rfl rfl ?_
  refine x_in rfl rfl rfl ?_
  refine x_hs1 (by decide) ?_
  refine x_in rfl rfl rfl ?_
  refine x_in rfl rfl rfl ?_
  refine x_in rfl rfl rfl ?_
  refine x_in rfl rfl rfl ?_
  refine x_in rfl rfl rfl ?_
  refine x_top (show _ = Value.int ((1 : Int32)) from congrArg Value.int (by decide)) ?_
  refine x_in rfl rfl rfl ?_
  refine x_top (show _ = Value.int ((4 : Int32)) from congrArg Value.int (by decide)) ?_
  refine x_in rfl rfl rfl ?_
  refine x_hs0 ?_
  refine x_iinc (z := (-1 : Int32)) rfl rfl (by decide) ?_
  refine x_in rfl rfl rfl ?_
  refine x_in rfl rfl rfl ?_
  refine x_in rfl rfl rfl ?_
  refine x_in rfl rfl rfl ?_
  refine x_in rfl rfl rfl ?_
  refine x_in rfl rfl rfl ?_
  refine x_ret rfl rfl ?_
  refine x_in rfl rfl rfl ?_
  refine x_in rfl rfl rfl ?_
  refine x_in rfl rfl rfl ?_
  refine x_in rfl rfl rfl ?_
  refine x_top (show _ = Value.int ((1 : Int32)) from congrArg Value.int (by decide)) ?_
  refine x_in rfl rfl rfl ?_
  refine x_top (show _ = Value.int ((1 : Int32)) from congrArg Value.int (by decide)) ?_
  refine x_in rfl rfl rfl ?_
  refine x_in rfl rfl rfl ?_
  refine x_in rfl rfl rfl ?_
  refine x_top (show _ = Value.int ((32 : Int32)) from congrArg Value.int (by decide)) ?_
  refine x_in rfl rfl rfl ?_
  refine x_in rfl rfl rfl ?_
  refine x_in rfl rfl rfl ?_
  refine x_in rfl rfl rfl ?_
  refine x_top (show _ = Value.int ((2 : Int32)) from congrArg Value.int (by decide)) ?_
  refine x_in rfl rfl rfl ?_
  refine x_top (show _ = Value.int ((2 : Int32)) from congrArg Value.int (by decide)) ?_
  refine x_in rfl rfl rfl ?_
  refine x_in rfl rfl rfl ?_
  refine x_in rfl rfl rfl ?_
  refine x_in rfl rfl rfl ?_
  refine x_in rfl rfl rfl ?_
  refine x_in rfl rfl rfl ?_
  refine x_in rfl rfl rfl ?_
  refine x_in rfl rfl rfl ?_
  refine x_top (show _ = Value.int ((3 : Int32)) from congrArg Value.int (by decide)) ?_
  refine x_in rfl rfl rfl ?_
  refine x_top (show _ = Value.int ((3 : Int32)) from congrArg Value.int (by decide)) ?_
  refine x_in rfl rfl rfl ?_
  refine x_cV rfl rfl rfl rfl ⟨rfl, (Nat.le_of_ble_eq_true rfl), (Nat.le_of_ble_eq_true rfl)⟩ (x_enter (Nat.le_of_ble_eq_true rfl) ?_)
  refine x_in rfl rfl rfl ?_
  refine x_in rfl rfl rfl ?_
  refine x_top (show _ = Value.int ((1 : Int32)) from congrArg Value.int (by decide)) ?_
  refine x_in rfl rfl rfl ?_
  refine x_top (show _ = Value.int ((8 : Int32)) from congrArg Value.int (by decide)) ?_
  refine x_cS rfl (by decide) rfl rfl ⟨(Nat.le_of_ble_eq_true rfl), (Nat.le_of_ble_eq_true rfl)⟩ (x_enter (Nat.le_of_ble_eq_true rfl) ?_)
  refine x_in rfl rfl rfl ?_
  refine x_in rfl rfl rfl ?_
  refine x_in rfl rfl rfl ?_
  refine x_in rfl rfl rfl ?_
  refine x_in rfl rfl rfl ?_
  refine x_in rfl rfl rfl ?_
  refine x_in rfl rfl rfl ?_
  refine x_top (show _ = Value.int ((1 : Int32)) from congrArg Value.int (by decide)) ?_
  refine x_in rfl rfl rfl ?_
  refine x_ret rfl rfl ?_
  refine x_in rfl rfl rfl ?_
  refine x_in rfl rfl rfl ?_
  refine x_in rfl rfl rfl ?_
  refine x_in rfl rfl rfl ?_
  refine x_top (show _ = Value.int ((6 : Int32)) from congrArg Value.int (by decide)) ?_
  refine x_in rfl rfl rfl ?_
  refine x_in rfl rfl rfl ?_
  refine x_in rfl rfl rfl ?_
  refine x_top (show _ = Value.int ((4 : Int32)) from congrArg Value.int (by decide)) ?_
  refine x_in rfl rfl rfl ?_
  refine x_top (show _ = Value.int ((160 : Int32)) from congrArg Value.int (by decide)) ?_
  refine x_in rfl rfl rfl ?_
  refine x_in rfl rfl rfl ?_
  refine x_in rfl rfl rfl ?_
  refine x_top (show _ = Value.int ((1 : Int32)) from congrArg Value.int (by decide)) ?_
  refine x_in rfl rfl rfl ?_
  refine x_top (show _ = Value.int ((3 : Int32)) from congrArg Value.int (by decide)) ?_
  refine x_in rfl rfl rfl ?_
  refine x_in rfl rfl rfl ?_
  refine x_in rfl rfl rfl ?_
  refine x_in rfl rfl rfl ?_
  refine x_in rfl rfl rfl ?_
  refine x_in rfl rfl rfl ?_
  refine x_top (show _ = Value.int ((10 : Int32)) from congrArg Value.int (by decide)) ?_
  refine x_in rfl rfl rfl ?_
  refine x_in rfl rfl rfl ?_
  refine x_in rfl rfl rfl ?_
  refine x_top (show _ = Value.int ((6 : Int32)) from congrArg Value.int (by decide)) ?_
  refine x_in rfl rfl rfl ?_
  refine x_in rfl rfl rfl ?_
  refine x_top (show _ = Value.int ((10 : Int32)) from congrArg Value.int (by decide)) ?_
  refine x_in rfl rfl rfl ?_
  refine x_in rfl rfl rfl ?_
  refine x_top (show _ = Value.int ((8 : Int32)) from congrArg Value.int (by decide)) ?_
  refine x_in rfl rfl rfl ?_
  refine x_in rfl rfl rfl ?_
  refine x_top (show _ = Value.int ((24 : Int32)) from congrArg Value.int (by decide)) ?_
  refine x_in rfl rfl rfl ?_
  refine x_in rfl rfl rfl ?_
  refine x_in rfl rfl rfl ?_
  refine x_in rfl rfl rfl ?_
  refine x_gen (fun v5 => ?_)
  refine x_in rfl rfl rfl ?_
  refine x_in rfl rfl rfl ?_
  refine x_in rfl rfl rfl ?_
  refine x_in rfl rfl rfl ?_
  refine x_top (show _ = Value.int ((6 : Int32)) from congrArg Value.int (by decide)) ?_
  refine x_in rfl rfl rfl ?_
  refine x_in rfl rfl rfl ?_
  refine x_in rfl rfl rfl ?_
  refine x_top (show _ = Value.int ((1 : Int32)) from congrArg Value.int (by decide)) ?_
  refine x_in rfl rfl rfl ?_
  refine x_top (show _ = Value.int ((1 : Int32)) from congrArg Value.int (by decide)) ?_
  refine x_in rfl rfl rfl ?_
  refine x_hs0 ?_
  refine x_iinc (z := (2 : Int32)) rfl rfl (by decide) ?_
  refine x_in rfl rfl rfl ?_
  refine x_in rfl rfl rfl ?_
  refine x_in rfl rfl rfl ?_
  refine x_in rfl rfl rfl ?_
  refine x_in rfl rfl rfl ?_
  refine x_in rfl rfl rfl ?_
  refine x_top (show _ = Value.int ((10 : Int32)) from congrArg Value.int (by decide)) ?_
  refine x_in rfl rfl rfl ?_
  refine x_in rfl rfl rfl ?_
  refine x_in rfl rfl rfl ?_
  refine x_top (show _ = Value.int ((6 : Int32)) from congrArg Value.int (by decide)) ?_
  refine x_in rfl rfl rfl ?_
  refine x_in rfl rfl rfl ?_
  refine x_top (show _ = Value.int ((11 : Int32)) from congrArg Value.int (by decide)) ?_
  refine x_in rfl rfl rfl ?_
  refine x_in rfl rfl rfl ?_
  refine x_top (show _ = Value.int ((8 : Int32)) from congrArg Value.int (by decide)) ?_
  refine x_in rfl rfl rfl ?_
  refine x_in rfl rfl rfl ?_
  refine x_top (show _ = Value.int ((16 : Int32)) from congrArg Value.int (by decide)) ?_
  refine x_in rfl rfl rfl ?_
  refine x_in rfl rfl rfl ?_
  refine x_in rfl rfl rfl ?_
  refine x_in rfl rfl rfl ?_
  refine x_gen (fun v6 => ?_)
  refine x_in rfl rfl rfl ?_
  refine x_hs0 ?_
  refine x_in rfl rfl rfl ?_
  refine x_in rfl rfl rfl ?_
  refine x_in rfl rfl rfl ?_
  refine x_top (show _ = Value.int ((6 : Int32)) from congrArg Value.int (by decide)) ?_
  refine x_in rfl rfl rfl ?_
  refine x_in rfl rfl rfl ?_
  refine x_in rfl rfl rfl ?_
  refine x_top (show _ = Value.int ((1 : Int32)) from congrArg Value.int (by decide)) ?_
  refine x_in rfl rfl rfl ?_
  refine x_top (show _ = Value.int ((2 : Int32)) from congrArg Value.int (by decide)) ?_
  refine x_in rfl rfl rfl ?_
  refine x_hs0 ?_
  refine x_iinc (z := (1 : Int32)) rfl rfl (by decide) ?_
  refine x_in rfl rfl rfl ?_
  refine x_in rfl rfl rfl ?_
  refine x_in rfl rfl rfl ?_
  refine x_in rfl rfl rfl ?_
  refine x_in rfl rfl rfl ?_
  refine x_in rfl rfl rfl ?_
  refine x_top (show _ = Value.int ((10 : Int32)) from congrArg Value.int (by decide)) ?_
  refine x_in rfl rfl rfl ?_
  refine x_in rfl rfl rfl ?_
  refine x_in rfl rfl rfl ?_
  refine x_top (show _ = Value.int ((6 : Int32)) from congrArg Value.int (by decide)) ?_
  refine x_in rfl rfl rfl ?_
  refine x_in rfl rfl rfl ?_
  refine x_top (show _ = Value.int ((12 : Int32)) from congrArg Value.int (by decide)) ?_
  refine x_in rfl rfl rfl ?_
  refine x_in rfl rfl rfl ?_
  refine x_top (show _ = Value.int ((8 : Int32)) from congrArg Value.int (by decide)) ?_
  refine x_in rfl rfl rfl ?_
  refine x_in rfl rfl rfl ?_
  refine x_top (show _ = Value.int ((8 : Int32)) from congrArg Value.int (by decide)) ?_
  refine x_in rfl rfl rfl ?_
  refine x_in rfl rfl rfl ?_
  refine x_in rfl rfl rfl ?_
  refine x_in rfl rfl rfl ?_
  refine x_gen (fun v7 => ?_)
  refine x_in rfl rfl rfl ?_
  refine x_hs0 ?_
  refine x_in rfl rfl rfl ?_
  refine x_in rfl rfl rfl ?_
  refine x_in rfl rfl rfl ?_
  refine x_top (show _ = Value.int ((6 : Int32)) from congrArg Value.int (by decide)) ?_
  refine x_in rfl rfl rfl ?_
  refine x_in rfl rfl rfl ?_
  refine x_in rfl rfl rfl ?_
  refine x_top (show _ = Value.int ((1 : Int32)) from congrArg Value.int (by decide)) ?_
  refine x_in rfl rfl rfl ?_
  refine x_top (show _ = Value.int ((3 : Int32)) from congrArg Value.int (by decide)) ?_
  refine x_in rfl rfl rfl ?_
  refine x_hs0 ?_
  refine x_iinc (z := (0 : Int32)) rfl rfl (by decide) ?_
  refine x_in rfl rfl rfl ?_
  refine x_in rfl rfl rfl ?_
  refine x_in rfl rfl rfl ?_
  refine x_in rfl rfl rfl ?_
  refine x_in rfl rfl rfl ?_
  refine x_in rfl rfl rfl ?_
  refine x_top (show _ = Value.int ((10 : Int32)) from congrArg Value.int (by decide)) ?_
  refine x_in rfl rfl rfl ?_
  refine x_in rfl rfl rfl ?_
  refine x_in rfl rfl rfl ?_
  refine x_top (show _ = Value.int ((6 : Int32)) from congrArg Value.int (by decide)) ?_
  refine x_in rfl rfl rfl ?_
  refine x_in rfl rfl rfl ?_
  refine x_top (show _ = Value.int ((13 : Int32)) from congrArg Value.int (by decide)) ?_
  refine x_in rfl rfl rfl ?_
  refine x_in rfl rfl rfl ?_
  refine x_top (show _ = Value.int ((8 : Int32)) from congrArg Value.int (by decide)) ?_
  refine x_in rfl rfl rfl ?_
  refine x_in rfl rfl rfl ?_
  refine x_top (show _ = Value.int ((0 : Int32)) from congrArg Value.int (by decide)) ?_
  refine x_in rfl rfl rfl ?_
  refine x_in rfl rfl rfl ?_
  refine x_in rfl rfl rfl ?_
  refine x_in rfl rfl rfl ?_
  refine x_gen (fun v8 => ?_)
  refine x_in rfl rfl rfl ?_
  refine x_hs0 ?_
  refine x_in rfl rfl rfl ?_
  refine x_in rfl rfl rfl ?_
  refine x_in rfl rfl rfl ?_
  refine x_top (show _ = Value.int ((6 : Int32)) from congrArg Value.int (by decide)) ?_
  refine x_in rfl rfl rfl ?_
  refine x_in rfl rfl rfl ?_
  refine x_in rfl rfl rfl ?_
  refine x_top (show _ = Value.int ((1 : Int32)) from congrArg Value.int (by decide)) ?_
  refine x_in rfl rfl rfl ?_
  refine x_top (show _ = Value.int ((4 : Int32)) from congrArg Value.int (by decide)) ?_
  refine x_in rfl rfl rfl ?_
  refine x_hs0 ?_
  refine x_iinc (z := (-1 : Int32)) rfl rfl (by decide) ?_
  refine x_in rfl rfl rfl ?_
  refine x_in rfl rfl rfl ?_
  refine x_in rfl rfl rfl ?_
  refine x_in rfl rfl rfl ?_
  refine x_in rfl rfl rfl ?_
  refine x_in rfl rfl rfl ?_
  refine x_top (show _ = Value.int ((6 : Int32)) from congrArg Value.int (by decide)) ?_
  refine x_in rfl rfl rfl ?_
  refine x_ret rfl rfl ?_
  refine x_in rfl rfl rfl ?_
  refine x_iinc (z := (6 : Int32)) rfl rfl (by decide) ?_
  refine x_in rfl rfl rfl ?_
  refine x_in rfl rfl rfl ?_
  refine x_in rfl rfl rfl ?_
  refine x_in rfl rfl rfl ?_
  refine x_top (show _ = Value.int ((6 : Int32)) from rfl) ?_
  refine x_in rfl rfl rfl ?_
  refine x_top (show _ = Value.int ((6 : Int32)) from congrArg Value.int (by decide)) ?_
  refine x_in rfl rfl rfl ?_
  refine x_top (show _ = Value.int ((0 : Int32)) from congrArg Value.int (by decide)) ?_
  refine x_in rfl rfl rfl ?_
  refine x_in rfl rfl rfl ?_
  refine x_top (show _ = Value.int ((1 : Int32)) from congrArg Value.int (by decide)) ?_
  refine x_ret rfl rfl ?_
  exact ⟨rfl, by decide, by decide⟩
end
section
set_option maxRecDepth 100000 in
set_option maxHeartbeats 4000000 in
theorem c_0_5 (n : Nat) (c a1 a2 a4 a5 : Int32) : x_E (m_X [c, a1, a2, 5, a4, a5]) 60 181 193 11164 (n + 300) 156 [(3, .int 0), (2, .ref 170), (1, .ref 0), (0, .ref 1000000)] [] m_h0 lK := by
  refine x_in rfl rfl rfl ?_
  refine x_in rfl rfl rfl ?_
  refine x_in rfl rfl rfl ?_
  refine x_in rfl rfl rfl ?_
  refine x_top (show _ = Value.int ((1 : Int32)) from congrArg Value.int (by decide)) ?_
  refine x_in rfl rfl rfl ?_
  refine x_top (show _ = Value.int ((1 : Int32)) from congrArg Value.int (by decide)) ?_
  refine x_in rfl rfl rfl ?_
  refine x_in rfl rfl rfl ?_
  refine x_in rfl rfl rfl ?_
  refine x_top (show _ = Value.int ((32 : Int32)) from congrArg Value.int (by decide)) ?_
  refine x_in rfl rfl rfl ?_
  refine x_in rfl rfl rfl ?_
  refine x_in rfl rfl rfl ?_
  refine x_in rfl rfl rfl ?_
  refine x_top (show _ = Value.int ((2 : Int32)) from congrArg Value.int (by decide)) ?_
  refine x_in rfl rfl rfl ?_
  refine x_top (show _ = Value.int ((2 : Int32)) from congrArg Value.int (by decide)) ?_
  refine x_in rfl rfl rfl ?_
  refine x_in rfl rfl rfl ?_
  refine x_in rfl rfl rfl ?_
  refine x_in rfl rfl rfl ?_
  refine x_in rfl rfl rfl ?_
  refine x_in rfl rfl rfl ?_
  refine x_in rfl rfl rfl ?_
  refine x_in rfl rfl rfl ?_
  refine x_top (show _ = Value.int ((3 : Int32)) from congrArg Value.int (by decide)) ?_
  refine x_in rfl rfl rfl ?_
  refine x_top (show _ = Value.int ((3 : Int32)) from congrArg Value.int (by decide)) ?_
  refine x_in rfl rfl rfl ?_
  refine x_cV rfl rfl rfl rfl ⟨rfl, (Nat.le_of_ble_eq_true rfl), (Nat.le_of_ble_eq_true rfl)⟩ (x_enter (Nat.le_of_ble_eq_true rfl) ?_)
  refine x_in rfl rfl rfl ?_
  refine x_in rfl rfl rfl ?_
  refine x_top (show _ = Value.int ((1 : Int32)) from congrArg Value.int (by decide)) ?_
  refine x_in rfl rfl rfl ?_
  refine x_in rfl rfl rfl ?_
  refine x_in rfl rfl rfl ?_
  refine x_top (show _ = Value.int ((8 : Int32)) from congrArg Value.int (by decide)) ?_
  refine x_in rfl rfl rfl ?_
  refine x_in rfl rfl rfl ?_
  refine x_in rfl rfl rfl ?_
  refine x_in rfl rfl rfl ?_
  refine x_in rfl rfl rfl ?_
  refine x_in rfl rfl rfl ?_
  refine x_top (show _ = Value.int ((5 : Int32)) from congrArg Value.int (by decide)) ?_
  refine x_in rfl rfl rfl ?_
  refine x_top (show _ = Value.int ((160 : Int32)) from congrArg Value.int (by decide)) ?_
  refine x_in rfl rfl rfl ?_
  refine x_in rfl rfl rfl ?_
  refine x_in rfl rfl rfl ?_
  refine x_top (show _ = Value.int ((1 : Int32)) from congrArg Value.int (by decide)) ?_
  refine x_in rfl rfl rfl ?_
  refine x_top (show _ = Value.int ((4 : Int32)) from congrArg Value.int (by decide)) ?_
  refine x_in rfl rfl rfl ?_
  refine x_in rfl rfl rfl ?_
  refine x_in rfl rfl rfl ?_
  refine x_in rfl rfl rfl ?_
  refine x_in rfl rfl rfl ?_
  refine x_in rfl rfl rfl ?_
  refine x_in rfl rfl rfl ?_
  refine x_in rfl rfl rfl ?_
  refine x_in rfl rfl rfl ?_
  refine x_in rfl rfl rfl ?_
  refine x_in rfl rfl rfl ?_
  refine x_top (show _ = Value.int ((8 : Int32)) from congrArg Value.int (by decide)) ?_
  refine x_in rfl rfl rfl ?_
  refine x_in rfl rfl rfl ?_
  refine x_top (show _ = Value.int ((32 : Int32)) from congrArg Value.int (by decide)) ?_
  refine x_in rfl rfl rfl ?_
  refine x_in rfl rfl rfl ?_
  refine x_gen (fun v1 => ?_)
  refine x_in rfl rfl rfl ?_
  refine x_top (show _ = Value.int ((255 : Int32)) from congrArg Value.int (by decide)) ?_
  refine x_in rfl rfl rfl ?_
  refine x_in rfl rfl rfl ?_
  refine x_in rfl rfl rfl ?_
  refine x_in rfl rfl rfl ?_
  refine x_in rfl rfl rfl ?_
  refine x_in rfl rfl rfl ?_
  refine x_in rfl rfl rfl ?_
  refine x_top (show _ = Value.int ((1 : Int32)) from congrArg Value.int (by decide)) ?_
  refine x_in rfl rfl rfl ?_
  refine x_top (show _ = Value.int ((1 : Int32)) from congrArg Value.int (by decide)) ?_
  refine x_in rfl rfl rfl ?_
  refine x_iinc (z := (3 : Int32)) rfl rfl (by decide) ?_
  refine x_in rfl rfl rfl ?_
  refine x_in rfl rfl rfl ?_
  refine x_in rfl rfl rfl ?_
  refine x_in rfl rfl rfl ?_
  refine x_in rfl rfl rfl ?_
  refine x_in rfl rfl rfl ?_
  refine x_in rfl rfl rfl ?_
  refine x_in rfl rfl rfl ?_
  refine x_in rfl rfl rfl ?_
  refine x_in rfl rfl rfl ?_
  refine x_in rfl rfl rfl ?_
  refine x_top (show _ = Value.int ((8 : Int32)) from congrArg Value.int (by decide)) ?_
  refine x_in rfl rfl rfl ?_
  refine x_in rfl rfl rfl ?_
  refine x_top (show _ = Value.int ((24 : Int32)) from congrArg Value.int (by decide)) ?_
  refine x_in rfl rfl rfl ?_
  refine x_in rfl rfl rfl ?_
  refine x_gen (fun v2 => ?_)
  refine x_in rfl rfl rfl ?_
  refine x_top (show _ = Value.int ((255 : Int32)) from congrArg Value.int (by decide)) ?_
  refine x_in rfl rfl rfl ?_
  refine x_in rfl rfl rfl ?_
  refine x_hs1 (by decide) ?_
  refine x_in rfl rfl rfl ?_
  refine x_in rfl rfl rfl ?_
  refine x_in rfl rfl rfl ?_
  refine x_in rfl rfl rfl ?_
  refine x_in rfl rfl rfl ?_
  refine x_top (show _ = Value.int ((1 : Int32)) from congrArg Value.int (by decide)) ?_
  refine x_in rfl rfl rfl ?_
  refine x_top (show _ = Value.int ((2 : Int32)) from congrArg Value.int (by decide)) ?_
  refine x_in rfl rfl rfl ?_
  refine x_hs0 ?_
  refine x_iinc (z := (2 : Int32)) rfl rfl (by decide) ?_
  refine x_in rfl rfl rfl ?_
  refine x_in rfl rfl rfl ?_
  refine x_in rfl rfl rfl ?_
  refine x_in rfl rfl rfl ?_
  refine x_in rfl rfl rfl ?_
  refine x_in rfl rfl rfl ?_
  refine x_in rfl rfl rfl ?_
  refine x_in rfl rfl rfl ?_
  refine x_in rfl rfl rfl ?_
  refine x_in rfl rfl rfl ?_
  refine x_in rfl rfl rfl ?_
  refine x_top (show _ = Value.int ((8 : Int32)) from congrArg Value.int (by decide)) ?_
  refine x_in rfl rfl rfl ?_
  refine x_in rfl rfl rfl ?_
  refine x_top (show _ = Value.int ((16 : Int32)) from congrArg Value.int (by decide)) ?_
  refine x_in rfl rfl rfl ?_
  refine x_in rfl rfl rfl ?_
  refine x_gen (fun v3 => ?_)
  refine x_in rfl rfl rfl ?_
  refine x_top (show _ = Value.int ((255 : Int32)) from congrArg Value.int (by decide)) ?_
  refine x_in rfl rfl rfl ?_
  refine x_in rfl rfl rfl ?_
  refine x_hs1 (by decide) ?_
  refine x_in rfl rfl rfl ?_
  refine x_in rfl rfl rfl ?_
  refine x_in rfl rfl rfl ?_
  refine x_in rfl rfl rfl ?_
  refine x_in rfl rfl rfl ?_
  refine x_top (show _ = Value.int ((1 : Int32)) from congrArg Value.int (by decide)) ?_
  refine x_in rfl rfl rfl ?_
  refine x_top (show _ = Value.int ((3 : Int32)) from congrArg Value.int (by decide)) ?_
  refine x_in rfl rfl rfl ?_
  refine x_hs0 ?_
  refine x_iinc (z := (1 : Int32)) rfl rfl (by decide) ?_
  refine x_in rfl rfl rfl ?_
  refine x_in rfl rfl rfl ?_
  refine x_in rfl rfl rfl ?_
  refine x_in rfl rfl rfl ?_
  refine x_in rfl rfl rfl ?_
  refine x_in rfl rfl rfl ?_
  refine x_in rfl rfl rfl ?_
  refine x_in rfl rfl rfl ?_
  refine x_in rfl rfl rfl ?_
  refine x_in rfl rfl rfl ?_
  refine x_in rfl rfl rfl ?_
  refine x_top (show _ = Value.int ((8 : Int32)) from congrArg Value.int (by decide)) ?_
  refine x_in rfl rfl rfl ?_
  refine x_in rfl rfl rfl ?_
  refine x_top (show _ = Value.int ((8 : Int32)) from congrArg Value.int (by decide)) ?_
  refine x_in rfl rfl rfl ?_
  refine x_in rfl rfl rfl ?_
  refine x_gen (fun v4 => ?_)
  refine x_in rfl rfl rfl ?_
  refine x_top (show _ = Value.int ((255 : Int32)) from congrArg Value.int (by decide)) ?_
  refine x_in rfl rfl rfl ?_
  refine x_in rfl rfl rfl ?_
  refine x_hs1 (by decide) ?_
  refine x_in rfl rfl rfl ?_
  refine x_in rfl rfl rfl ?_
  refine x_in rfl rfl rfl ?_
  refine x_in rfl rfl rfl ?_
  refine x_in rfl rfl rfl ?_
  refine x_top (show _ = Value.int ((1 : Int32)) from congrArg Value.int (by decide)) ?_
  refine x_in rfl rfl rfl ?_
  refine x_top (show _ = Value.int ((4 : Int32)) from congrArg Value.int (by decide)) ?_
  refine x_in rfl rfl rfl ?_
  refine x_hs0 ?_
  refine x_iinc (z := (0 : Int32)) rfl rfl (by decide) ?_
  refine x_in rfl rfl rfl ?_
  refine x_in rfl rfl rfl ?_
  refine x_in rfl rfl rfl ?_
  refine x_in rfl rfl rfl ?_
  refine x_in rfl rfl rfl ?_
  refine x_in rfl rfl rfl ?_
  refine x_in rfl rfl rfl ?_
  refine x_in rfl rfl rfl ?_
  refine x_in rfl rfl rfl ?_
  refine x_in rfl rfl rfl ?_
  refine x_in rfl rfl rfl ?_
  refine x_top (show _ = Value.int ((8 : Int32)) from congrArg Value.int (by decide)) ?_
  refine x_in rfl rfl rfl ?_
  refine x_in rfl rfl rfl ?_
  refine x_top (show _ = Value.int ((0 : Int32)) from congrArg Value.int (by decide)) ?_
  refine x_in rfl rfl rfl ?_
  refine x_in rfl rfl rfl ?_
  refine x_gen (fun v5 => ?_)
  refine x_in rfl rfl rfl ?_
  refine x_top (show _ = Value.int ((255 : Int32)) from congrArg Value.int (by decide)) ?_
  refine x_in rfl rfl rfl ?_
  refine x_in rfl rfl rfl ?_
  refine x_hs1 (by decide) ?_
  refine x_in rfl rfl rfl ?_
  refine x_in rfl rfl rfl ?_
  refine x_in rfl rfl rfl ?_
  refine x_in rfl rfl rfl ?_
  refine x_in rfl rfl rfl ?_
  refine x_top (show _ = Value.int ((1 : Int32)) from congrArg Value.int (by decide)) ?_
  refine x_in rfl rfl rfl ?_
  refine x_top (show _ = Value.int ((5 : Int32)) from congrArg Value.int (by decide)) ?_
  refine x_in rfl rfl rfl ?_
  refine x_hs0 ?_
  refine x_iinc (z := (-1 : Int32)) rfl rfl (by decide) ?_
  refine x_in rfl rfl rfl ?_
  refine x_in rfl rfl rfl ?_
  refine x_in rfl rfl rfl ?_
  refine x_in rfl rfl rfl ?_
  refine x_in rfl rfl rfl ?_
  refine x_in rfl rfl rfl ?_
  refine x_ret rfl rfl ?_
  refine x_in rfl rfl rfl ?_
  refine x_in rfl rfl rfl ?_
  refine x_in rfl rfl rfl ?_
  refine x_in rfl rfl rfl ?_
  refine x_top (show _ = Value.int ((1 : Int32)) from congrArg Value.int (by decide)) ?_
  refine x_in rfl rfl rfl ?_
  refine x_top (show _ = Value.int ((1 : Int32)) from congrArg Value.int (by decide)) ?_
  refine x_in rfl rfl rfl ?_
  refine x_in rfl rfl rfl ?_
  refine x_in rfl rfl rfl ?_
  refine x_top (show _ = Value.int ((32 : Int32)) from congrArg Value.int (by decide)) ?_
  refine x_in rfl rfl rfl ?_
  refine x_in rfl rfl rfl ?_
  refine x_in rfl rfl rfl ?_
  refine x_in rfl rfl rfl ?_
  refine x_top (show _ = Value.int ((2 : Int32)) from congrArg Value.int (by decide)) ?_
  refine x_in rfl rfl rfl ?_
  refine x_top (show _ = Value.int ((2 : Int32)) from congrArg Value.int (by decide)) ?_
  refine x_in rfl rfl rfl ?_
  refine x_in rfl rfl rfl ?_
  refine x_in rfl rfl rfl ?_
  refine x_in rfl rfl rfl ?_
  refine x_in rfl rfl rfl ?_
  refine x_in rfl rfl rfl ?_
  refine x_in rfl rfl rfl ?_
  refine x_in rfl rfl rfl ?_
  refine x_top (show _ = Value.int ((3 : Int32)) from congrArg Value.int (by decide)) ?_
  refine x_in rfl rfl rfl ?_
  refine x_top (show _ = Value.int ((3 : Int32)) from congrArg Value.int (by decide)) ?_
  refine x_in rfl rfl rfl ?_
  refine x_cV rfl rfl rfl rfl ⟨rfl, (Nat.le_of_ble_eq_true rfl), (Nat.le_of_ble_eq_true rfl)⟩ (x_enter (Nat.le_of_ble_eq_true rfl) ?_)
  refine x_in rfl rfl rfl ?_
  refine x_in rfl rfl rfl ?_
  refine x_top (show _ = Value.int ((1 : Int32)) from congrArg Value.int (by decide)) ?_
  refine x_in rfl rfl rfl ?_
  refine x_top (show _ = Value.int ((8 : Int32)) from congrArg Value.int (by decide)) ?_
  refine x_cS rfl (by decide) rfl rfl ⟨(Nat.le_of_ble_eq_true rfl), (Nat.le_of_ble_eq_true rfl)⟩ (x_enter (Nat.le_of_ble_eq_true rfl) ?_)
  refine x_in rfl rfl rfl ?_
  refine x_in rfl rfl rfl ?_
  refine x_in rfl rfl rfl ?_
  refine x_in rfl rfl rfl ?_
  refine x_in rfl rfl rfl ?_
  refine x_in rfl rfl rfl ?_
  refine x_in rfl rfl rfl ?_
  refine x_top (show _ = Value.int ((1 : Int32)) from congrArg Value.int (by decide)) ?_
  refine x_in rfl rfl rfl ?_
  refine x_ret rfl rfl ?_
  refine x_in rfl rfl rfl ?_
  refine x_in rfl rfl rfl ?_
  refine x_in rfl rfl rfl ?_
  refine x_in rfl rfl rfl ?_
  refine x_top (show _ = Value.int ((6 : Int32)) from congrArg Value.int (by decide)) ?_
  refine x_in rfl rfl rfl ?_
  refine x_in rfl rfl rfl ?_
  refine x_in rfl rfl rfl ?_
  refine x_top (show _ = Value.int ((5 : Int32)) from congrArg Value.int (by decide)) ?_
  refine x_in rfl rfl rfl ?_
  refine x_top (show _ = Value.int ((160 : Int32)) from congrArg Value.int (by decide)) ?_
  refine x_in rfl rfl rfl ?_
  refine x_in rfl rfl rfl ?_
  refine x_in rfl rfl rfl ?_
  refine x_top (show _ = Value.int ((1 : Int32)) from congrArg Value.int (by decide)) ?_
  refine x_in rfl rfl rfl ?_
  refine x_top (show _ = Value.int ((4 : Int32)) from congrArg Value.int (by decide)) ?_
  refine x_in rfl rfl rfl ?_
  refine x_in rfl rfl rfl ?_
  refine x_in rfl rfl rfl ?_
  refine x_in rfl rfl rfl ?_
  refine x_in rfl rfl rfl ?_
  refine x_in rfl rfl rfl ?_
  refine x_top (show _ = Value.int ((10 : Int32)) from congrArg Value.int (by decide)) ?_
  refine x_in rfl rfl rfl ?_
  refine x_in rfl rfl rfl ?_
  refine x_in rfl rfl rfl ?_
  refine x_top (show _ = Value.int ((6 : Int32)) from congrArg Value.int (by decide)) ?_
  refine x_in rfl rfl rfl ?_
  refine x_in rfl rfl rfl ?_
  refine x_top (show _ = Value.int ((10 : Int32)) from congrArg Value.int (by decide)) ?_
  refine x_in rfl rfl rfl ?_
  refine x_in rfl rfl rfl ?_
  refine x_top (show _ = Value.int ((8 : Int32)) from congrArg Value.int (by decide)) ?_
  refine x_in rfl rfl rfl ?_
  refine x_in rfl rfl rfl ?_
  refine x_top (show _ = Value.int ((32 : Int32)) from congrArg Value.int (by decide)) ?_
  refine x_in rfl rfl rfl ?_
  refine x_in rfl rfl rfl ?_
  refine x_in rfl rfl rfl ?_
  refine x_in rfl rfl rfl ?_
  refine x_gen (fun v6 => ?_)
  refine x_in rfl rfl rfl ?_
  refine x_in rfl rfl rfl ?_
  refine x_in rfl rfl rfl ?_
  refine x_in rfl rfl rfl ?_
  refine x_top (show _ = Value.int ((6 : Int32)) from congrArg Value.int (by decide)) ?_
  refine x_in rfl rfl rfl ?_
  refine x_in rfl rfl rfl ?_
  refine x_in rfl rfl rfl ?_
  refine x_top (show _ = Value.int ((1 : Int32)) from congrArg Value.int (by decide)) ?_
  refine x_in rfl rfl rfl ?_
  refine x_top (show _ = Value.int ((1 : Int32)) from congrArg Value.int (by decide)) ?_
  refine x_in rfl rfl rfl ?_
  refine x_hs0 ?_
  refine x_iinc (z := (3 : Int32)) rfl rfl (by decide) ?_
  refine x_in rfl rfl rfl ?_
  refine x_in rfl rfl rfl ?_
  refine x_in rfl rfl rfl ?_
  refine x_in rfl rfl rfl ?_
  refine x_in rfl rfl rfl ?_
  refine x_in rfl rfl rfl ?_
  refine x_top (show _ = Value.int ((10 : Int32)) from congrArg Value.int (by decide)) ?_
  refine x_in rfl rfl rfl ?_
  refine x_in rfl rfl rfl ?_
  refine x_in rfl rfl rfl ?_
  refine x_top (show _ = Value.int ((6 : Int32)) from congrArg Value.int (by decide)) ?_
  refine x_in rfl rfl rfl ?_
  refine x_in rfl rfl rfl ?_
  refine x_top (show _ = Value.int ((11 : Int32)) from congrArg Value.int (by decide)) ?_
  refine x_in rfl rfl rfl ?_
  refine x_in rfl rfl rfl ?_
  refine x_top (show _ = Value.int ((8 : Int32)) from congrArg Value.int (by decide)) ?_
  refine x_in rfl rfl rfl ?_
  refine x_in rfl rfl rfl ?_
  refine x_top (show _ = Value.int ((24 : Int32)) from congrArg Value.int (by decide)) ?_
  refine x_in rfl rfl rfl ?_
  refine x_in rfl rfl rfl ?_
  refine x_in rfl rfl rfl ?_
  refine x_in rfl rfl rfl ?_
  refine x_gen (fun v7 => ?_)
  refine x_in rfl rfl rfl ?_
  refine x_hs0 ?_
  refine x_in rfl rfl rfl ?_
  refine x_in rfl rfl rfl ?_
  refine x_in rfl rfl rfl ?_
  refine x_top (show _ = Value.int ((6 : Int32)) from congrArg Value.int (by decide)) ?_
  refine x_in rfl rfl rfl ?_
  refine x_in rfl rfl rfl ?_
  refine x_in rfl rfl rfl ?_
  refine x_top (show _ = Value.int ((1 : Int32)) from congrArg Value.int (by decide)) ?_
  refine x_in rfl rfl rfl ?_
  refine x_top (show _ = Value.int ((2 : Int32)) from congrArg Value.int (by decide)) ?_
  refine x_in rfl rfl rfl ?_
  refine x_hs0 ?_
  refine x_iinc (z := (2 : Int32)) rfl rfl (by decide) ?_
  refine x_in rfl rfl rfl ?_
  refine x_in rfl rfl rfl ?_
  refine x_in rfl rfl rfl ?_
  refine x_in rfl rfl rfl ?_
  refine x_in rfl rfl rfl ?_
  refine x_in rfl rfl rfl ?_
  refine x_top (show _ = Value.int ((10 : Int32)) from congrArg Value.int (by decide)) ?_
  refine x_in rfl rfl rfl ?_
  refine x_in rfl rfl rfl ?_
  refine x_in rfl rfl rfl ?_
  refine x_top (show _ = Value.int ((6 : Int32)) from congrArg Value.int (by decide)) ?_
  refine x_in rfl rfl rfl ?_
  refine x_in rfl rfl rfl ?_
  refine x_top (show _ = Value.int ((12 : Int32)) from congrArg Value.int (by decide)) ?_
  refine x_in rfl rfl rfl ?_
  refine x_in rfl rfl rfl ?_
  refine x_top (show _ = Value.int ((8 : Int32)) from congrArg Value.int (by decide)) ?_
  refine x_in rfl rfl rfl ?_
  refine x_in rfl rfl rfl ?_
  refine x_top (show _ = Value.int ((16 : Int32)) from congrArg Value.int (by decide)) ?_
  refine x_in rfl rfl rfl ?_
  refine x_in rfl rfl rfl ?_
  refine x_in rfl rfl rfl ?_
  refine x_in rfl rfl rfl ?_
  refine x_gen (fun v8 => ?_)
  refine x_in rfl rfl rfl ?_
  refine x_hs0 ?_
  refine x_in rfl rfl rfl ?_
  refine x_in rfl rfl rfl ?_
  refine x_in rfl rfl rfl ?_
  refine x_top (show _ = Value.int ((6 : Int32)) from congrArg Value.int (by decide)) ?_
  refine x_in rfl rfl rfl ?_
  refine x_in rfl rfl rfl ?_
  refine x_in rfl rfl rfl ?_
  refine x_top (show _ = Value.int ((1 : Int32)) from congrArg Value.int (by decide)) ?_
  refine x_in rfl rfl rfl ?_
  refine x_top (show _ = Value.int ((3 : Int32)) from congrArg Value.int (by decide)) ?_
  refine x_in rfl rfl rfl ?_
  refine x_hs0 ?_
  refine x_iinc (z := (1 : Int32)) rfl rfl (by decide) ?_
  refine x_in rfl rfl rfl ?_
  refine x_in rfl rfl rfl ?_
  refine x_in rfl rfl rfl ?_
  refine x_in rfl rfl rfl ?_
  refine x_in rfl rfl rfl ?_
  refine x_in rfl rfl rfl ?_
  refine x_top (show _ = Value.int ((10 : Int32)) from congrArg Value.int (by decide)) ?_
  refine x_in rfl rfl rfl ?_
  refine x_in rfl rfl rfl ?_
  refine x_in rfl rfl rfl ?_
  refine x_top (show _ = Value.int ((6 : Int32)) from congrArg Value.int (by decide)) ?_
  refine x_in rfl rfl rfl ?_
  refine x_in rfl rfl rfl ?_
  refine x_top (show _ = Value.int ((13 : Int32)) from congrArg Value.int (by decide)) ?_
  refine x_in rfl rfl rfl ?_
  refine x_in rfl rfl rfl ?_
  refine x_top (show _ = Value.int ((8 : Int32)) from congrArg Value.int (by decide)) ?_
  refine x_in rfl rfl rfl ?_
  refine x_in rfl rfl rfl ?_
  refine x_top (show _ = Value.int ((8 : Int32)) from congrArg Value.int (by decide)) ?_
  refine x_in rfl rfl rfl ?_
  refine x_in rfl rfl rfl ?_
  refine x_in rfl rfl rfl ?_
  refine x_in rfl rfl rfl ?_
  refine x_gen (fun v9 => ?_)
  refine x_in rfl rfl rfl ?_
  refine x_hs0 ?_
  refine x_in rfl rfl rfl ?_
  refine x_in rfl rfl rfl ?_
  refine x_in rfl rfl rfl ?_
  refine x_top (show _ = Value.int ((6 : Int32)) from congrArg Value.int (by decide)) ?_
  refine x_in rfl rfl rfl ?_
  refine x_in rfl rfl rfl ?_
  refine x_in rfl rfl rfl ?_
  refine x_top (show _ = Value.int ((1 : Int32)) from congrArg Value.int (by decide)) ?_
  refine x_in rfl rfl rfl ?_
  refine x_top (show _ = Value.int ((4 : Int32)) from congrArg Value.int (by decide)) ?_
  refine x_in rfl rfl rfl ?_
  refine x_hs0 ?_
  refine x_iinc (z := (0 : Int32)) rfl rfl (by decide) ?_
  refine x_in rfl rfl rfl ?_
  refine x_in rfl rfl rfl ?_
  refine x_in rfl rfl rfl ?_
  refine x_in rfl rfl rfl ?_
  refine x_in rfl rfl rfl ?_
  refine x_in rfl rfl rfl ?_
  refine x_top (show _ = Value.int ((10 : Int32)) from congrArg Value.int (by decide)) ?_
  refine x_in rfl rfl rfl ?_
  refine x_in rfl rfl rfl ?_
  refine x_in rfl rfl rfl ?_
  refine x_top (show _ = Value.int ((6 : Int32)) from congrArg Value.int (by decide)) ?_
  refine x_in rfl rfl rfl ?_
  refine x_in rfl rfl rfl ?_
  refine x_top (show _ = Value.int ((14 : Int32)) from congrArg Value.int (by decide)) ?_
  refine x_in rfl rfl rfl ?_
  refine x_in rfl rfl rfl ?_
  refine x_top (show _ = Value.int ((8 : Int32)) from congrArg Value.int (by decide)) ?_
  refine x_in rfl rfl rfl ?_
  refine x_in rfl rfl rfl ?_
  refine x_top (show _ = Value.int ((0 : Int32)) from congrArg Value.int (by decide)) ?_
  refine x_in rfl rfl rfl ?_
  refine x_in rfl rfl rfl ?_
  refine x_in rfl rfl rfl ?_
  refine x_in rfl rfl rfl ?_
  refine x_gen (fun v10 => ?_)
  refine x_in rfl rfl rfl ?_
  refine x_hs0 ?_
  refine x_in rfl rfl rfl ?_
  refine x_in rfl rfl rfl ?_
  refine x_in rfl rfl rfl ?_
  refine x_top (show _ = Value.int ((6 : Int32)) from congrArg Value.int (by decide)) ?_
  refine x_in rfl rfl rfl ?_
  refine x_in rfl rfl rfl ?_
  refine x_in rfl rfl rfl ?_
  refine x_top (show _ = Value.int ((1 : Int32)) from congrArg Value.int (by decide)) ?_
  refine x_in rfl rfl rfl ?_
  refine x_top (show _ = Value.int ((5 : Int32)) from congrArg Value.int (by decide)) ?_
  refine x_in rfl rfl rfl ?_
  refine x_hs0 ?_
  refine x_iinc (z := (-1 : Int32)) rfl rfl (by decide) ?_
  refine x_in rfl rfl rfl ?_
  refine x_in rfl rfl rfl ?_
  refine x_in rfl rfl rfl ?_
  refine x_in rfl rfl rfl ?_
  refine x_in rfl rfl rfl ?_
  refine x_in rfl rfl rfl ?_
  refine x_top (show _ = Value.int ((6 : Int32)) from congrArg Value.int (by decide)) ?_
  refine x_in rfl rfl rfl ?_
  refine x_ret rfl rfl ?_
  refine x_in rfl rfl rfl ?_
  refine x_iinc (z := (6 : Int32)) rfl rfl (by decide) ?_
  refine x_in rfl rfl rfl ?_
  refine x_in rfl rfl rfl ?_
  refine x_in rfl rfl rfl ?_
  refine x_in rfl rfl rfl ?_
  refine x_top (show _ = Value.int ((6 : Int32)) from rfl) ?_
  refine x_in rfl rfl rfl ?_
  refine x_top (show _ = Value.int ((6 : Int32)) from congrArg Value.int (by decide)) ?_
  refine x_in rfl rfl rfl ?_
  refine x_top (show _ = Value.int ((0 : Int32)) from congrArg Value.int (by decide)) ?_
  refine x_in rfl rfl rfl ?_
  refine x_in rfl rfl rfl ?_
  refine x_top (show _ = Value.int ((1 : Int32)) from congrArg Value.int (by decide)) ?_
  refine x_ret rfl rfl ?_
  exact ⟨rfl, by decide, by decide⟩
set_option maxRecDepth 100000 in
set_option maxHeartbeats 4000000 in
theorem c_0_6 (n : Nat) (c a1 a2 a4 a5 : Int32) : x_E (m_X [c, a1, a2, 6, a4, a5]) 60 181 193 11164 (n + 300) 156 [(3, .int 0), (2, .ref 170), (1, .ref 0), (0, .ref 1000000)] [] m_h0 lK := by
  refine x_in rfl rfl rfl ?_
  refine x_in rfl rfl rfl ?_
  refine x_in rfl rfl rfl ?_
  refine x_in rfl rfl rfl ?_
  refine x_top (show _ = Value.int ((1 : Int32)) from congrArg Value.int (by decide)) ?_
  refine x_in rfl rfl rfl ?_
  refine x_top (show _ = Value.int ((1 : Int32)) from congrArg Value.int (by decide)) ?_
  refine x_in rfl rfl rfl ?_
  refine x_in rfl rfl rfl ?_
  refine x_in rfl rfl rfl ?_
  refine x_top (show _ = Value.int ((32 : Int32)) from congrArg Value.int (by decide)) ?_
  refine x_in rfl rfl rfl ?_
  refine x_in rfl rfl rfl ?_
  refine x_in rfl rfl rfl ?_
  refine x_in rfl rfl rfl ?_
  refine x_top (show _ = Value.int ((2 : Int32)) from congrArg Value.int (by decide)) ?_
  refine x_in rfl rfl rfl ?_
  refine x_top (show _ = Value.int ((2 : Int32)) from congrArg Value.int (by decide)) ?_
  refine x_in rfl rfl rfl ?_
  refine x_in rfl rfl rfl ?_
  refine x_in rfl rfl rfl ?_
  refine x_in rfl rfl rfl ?_
  refine x_in rfl rfl rfl ?_
  refine x_in rfl rfl rfl ?_
  refine x_in rfl rfl rfl ?_
  refine x_in rfl rfl rfl ?_
  refine x_top (show _ = Value.int ((3 : Int32)) from congrArg Value.int (by decide)) ?_
  refine x_in rfl rfl rfl ?_
  refine x_top (show _ = Value.int ((3 : Int32)) from congrArg Value.int (by decide)) ?_
  refine x_in rfl rfl rfl ?_
  refine x_cV rfl rfl rfl rfl ⟨rfl, (Nat.le_of_ble_eq_true rfl), (Nat.le_of_ble_eq_true rfl)⟩ (x_enter (Nat.le_of_ble_eq_true rfl) ?_)
  refine x_in rfl rfl rfl ?_
  refine x_in rfl rfl rfl ?_
  refine x_top (show _ = Value.int ((1 : Int32)) from congrArg Value.int (by decide)) ?_
  refine x_in rfl rfl rfl ?_
  refine x_in rfl rfl rfl ?_
  refine x_in rfl rfl rfl ?_
  refine x_top (show _ = Value.int ((8 : Int32)) from congrArg Value.int (by decide)) ?_
  refine x_in rfl rfl rfl ?_
  refine x_in rfl rfl rfl ?_
  refine x_in rfl rfl rfl ?_
  refine x_in rfl rfl rfl ?_
  refine x_in rfl rfl rfl ?_
  refine x_in rfl rfl rfl ?_
  refine x_top (show _ = Value.int ((6 : Int32)) from congrArg Value.int (by decide)) ?_
  refine x_in rfl rfl rfl ?_
  refine x_top (show _ = Value.int ((160 : Int32)) from congrArg Value.int (by decide)) ?_
  refine x_in rfl rfl rfl ?_
  refine x_in rfl rfl rfl ?_
  refine x_in rfl rfl rfl ?_
  refine x_top (show _ = Value.int ((1 : Int32)) from congrArg Value.int (by decide)) ?_
  refine x_in rfl rfl rfl ?_
  refine x_top (show _ = Value.int ((5 : Int32)) from congrArg Value.int (by decide)) ?_
  refine x_in rfl rfl rfl ?_
  refine x_in rfl rfl rfl ?_
  refine x_in rfl rfl rfl ?_
  refine x_in rfl rfl rfl ?_
  refine x_in rfl rfl rfl ?_
  refine x_in rfl rfl rfl ?_
  refine x_in rfl rfl rfl ?_
  refine x_in rfl rfl rfl ?_
  refine x_in rfl rfl rfl ?_
  refine x_in rfl rfl rfl ?_
  refine x_in rfl rfl rfl ?_
  refine x_top (show _ = Value.int ((8 : Int32)) from congrArg Value.int (by decide)) ?_
  refine x_in rfl rfl rfl ?_
  refine x_in rfl rfl rfl ?_
  refine x_top (show _ = Value.int ((40 : Int32)) from congrArg Value.int (by decide)) ?_
  refine x_in rfl rfl rfl ?_
  refine x_in rfl rfl rfl ?_
  refine x_gen (fun v1 => ?_)
  refine x_in rfl rfl rfl ?_
  refine x_top (show _ = Value.int ((255 : Int32)) from congrArg Value.int (by decide)) ?_
  refine x_in rfl rfl rfl ?_
  refine x_in rfl rfl rfl ?_
  refine x_in rfl rfl rfl ?_
  refine x_in rfl rfl rfl ?_
  refine x_in rfl rfl rfl ?_
  refine x_in rfl rfl rfl ?_
  refine x_in rfl rfl rfl ?_
  refine x_top (show _ = Value.int ((1 : Int32)) from congrArg Value.int (by decide)) ?_
  refine x_in rfl rfl rfl ?_
  refine x_top (show _ = Value.int ((1 : Int32)) from congrArg Value.int (by decide)) ?_
  refine x_in rfl rfl rfl ?_
  refine x_iinc (z := (4 : Int32)) rfl rfl (by decide) ?_
  refine x_in rfl rfl rfl ?_
  refine x_in rfl rfl rfl ?_
  refine x_in rfl rfl rfl ?_
  refine x_in rfl rfl rfl ?_
  refine x_in rfl rfl rfl ?_
  refine x_in rfl rfl rfl ?_
  refine x_in rfl rfl rfl ?_
  refine x_in rfl rfl rfl ?_
  refine x_in rfl rfl rfl ?_
  refine x_in rfl rfl rfl ?_
  refine x_in rfl rfl rfl ?_
  refine x_top (show _ = Value.int ((8 : Int32)) from congrArg Value.int (by decide)) ?_
  refine x_in rfl rfl rfl ?_
  refine x_in rfl rfl rfl ?_
  refine x_top (show _ = Value.int ((32 : Int32)) from congrArg Value.int (by decide)) ?_
  refine x_in rfl rfl rfl ?_
  refine x_in rfl rfl rfl ?_
  refine x_gen (fun v2 => ?_)
  refine x_in rfl rfl rfl ?_
  refine x_top (show _ = Value.int ((255 : Int32)) from congrArg Value.int (by decide)) ?_
  refine x_in rfl rfl rfl ?_
  refine x_in rfl rfl rfl ?_
  refine x_hs1 (by decide) ?_
  refine x_in rfl rfl rfl ?_
  refine x_in rfl rfl rfl ?_
  refine x_in rfl rfl rfl ?_
  refine x_in rfl rfl rfl ?_
  refine x_in rfl rfl rfl ?_
  refine x_top (show _ = Value.int ((1 : Int32)) from congrArg Value.int (by decide)) ?_
  refine x_in rfl rfl rfl ?_
  refine x_top (show _ = Value.int ((2 : Int32)) from congrArg Value.int (by decide)) ?_
  refine x_in rfl rfl rfl ?_
  refine x_hs0 ?_
  refine x_iinc (z := (3 : Int32)) rfl rfl (by decide) ?_
  refine x_in rfl rfl rfl ?_
  refine x_in rfl rfl rfl ?_
  refine x_in rfl rfl rfl ?_
  refine x_in rfl rfl rfl ?_
  refine x_in rfl rfl rfl ?_
  refine x_in rfl rfl rfl ?_
  refine x_in rfl rfl rfl ?_
  refine x_in rfl rfl rfl ?_
  refine x_in rfl rfl rfl ?_
  refine x_in rfl rfl rfl ?_
  refine x_in rfl rfl rfl ?_
  refine x_top (show _ = Value.int ((8 : Int32)) from congrArg Value.int (by decide)) ?_
  refine x_in rfl rfl rfl ?_
  refine x_in rfl rfl rfl ?_
  refine x_top (show _ = Value.int ((24 : Int32)) from congrArg Value.int (by decide)) ?_
  refine x_in rfl rfl rfl ?_
  refine x_in rfl rfl rfl ?_
  refine x_gen (fun v3 => ?_)
  refine x_in rfl rfl rfl ?_
  refine x_top (show _ = Value.int ((255 : Int32)) from congrArg Value.int (by decide)) ?_
  refine x_in rfl rfl rfl ?_
  refine x_in rfl rfl rfl ?_
  refine x_hs1 (by decide) ?_
  refine x_in rfl rfl rfl ?_
  refine x_in rfl rfl rfl ?_
  refine x_in rfl rfl rfl ?_
  refine x_in rfl rfl rfl ?_
  refine x_in rfl rfl rfl ?_
  refine x_top (show _ = Value.int ((1 : Int32)) from congrArg Value.int (by decide)) ?_
  refine x_in rfl rfl rfl ?_
  refine x_top (show _ = Value.int ((3 : Int32)) from congrArg Value.int (by decide)) ?_
  refine x_in rfl rfl rfl ?_
  refine x_hs0 ?_
  refine x_iinc (z := (2 : Int32)) rfl rfl (by decide) ?_
  refine x_in rfl rfl rfl ?_
  refine x_in rfl rfl rfl ?_
  refine x_in rfl rfl rfl ?_
  refine x_in rfl rfl rfl ?_
  refine x_in rfl rfl rfl ?_
  refine x_in rfl rfl rfl ?_
  refine x_in rfl rfl rfl ?_
  refine x_in rfl rfl rfl ?_
  refine x_in rfl rfl rfl ?_
  refine x_in rfl rfl rfl ?_
  refine x_in rfl rfl rfl ?_
  refine x_top (show _ = Value.int ((8 : Int32)) from congrArg Value.int (by decide)) ?_
  refine x_in rfl rfl rfl ?_
  refine x_in rfl rfl rfl ?_
  refine x_top (show _ = Value.int ((16 : Int32)) from congrArg Value.int (by decide)) ?_
  refine x_in rfl rfl rfl ?_
  refine x_in rfl rfl rfl ?_
  refine x_gen (fun v4 => ?_)
  refine x_in rfl rfl rfl ?_
  refine x_top (show _ = Value.int ((255 : Int32)) from congrArg Value.int (by decide)) ?_
  refine x_in rfl rfl rfl ?_
  refine x_in rfl rfl rfl ?_
  refine x_hs1 (by decide) ?_
  refine x_in rfl rfl rfl ?_
  refine x_in rfl rfl rfl ?_
  refine x_in rfl rfl rfl ?_
  refine x_in rfl rfl rfl ?_
  refine x_in rfl rfl rfl ?_
  refine x_top (show _ = Value.int ((1 : Int32)) from congrArg Value.int (by decide)) ?_
  refine x_in rfl rfl rfl ?_
  refine x_top (show _ = Value.int ((4 : Int32)) from congrArg Value.int (by decide)) ?_
  refine x_in rfl rfl rfl ?_
  refine x_hs0 ?_
  refine x_iinc (z := (1 : Int32)) rfl rfl (by decide) ?_
  refine x_in rfl rfl rfl ?_
  refine x_in rfl rfl rfl ?_
  refine x_in rfl rfl rfl ?_
  refine x_in rfl rfl rfl ?_
  refine x_in rfl rfl rfl ?_
  refine x_in rfl rfl rfl ?_
  refine x_in rfl rfl rfl ?_
  refine x_in rfl rfl rfl ?_
  refine x_in rfl rfl rfl ?_
  refine x_in rfl rfl rfl ?_
  refine x_in rfl rfl rfl ?_
  refine x_top (show _ = Value.int ((8 : Int32)) from congrArg Value.int (by decide)) ?_
  refine x_in rfl rfl rfl ?_
  refine x_in rfl rfl rfl ?_
  refine x_top (show _ = Value.int ((8 : Int32)) from congrArg Value.int (by decide)) ?_
  refine x_in rfl rfl rfl ?_
  refine x_in rfl rfl rfl ?_
  refine x_gen (fun v5 => ?_)
  refine x_in rfl rfl rfl ?_
  refine x_top (show _ = Value.int ((255 : Int32)) from congrArg Value.int (by decide)) ?_
  refine x_in rfl rfl rfl ?_
  refine x_in rfl rfl rfl ?_
  refine x_hs1 (by decide) ?_
  refine x_in rfl rfl rfl ?_
  refine x_in rfl rfl rfl ?_
  refine x_in rfl rfl rfl ?_
  refine x_in rfl rfl rfl ?_
  refine x_in rfl rfl rfl ?_
  refine x_top (show _ = Value.int ((1 : Int32)) from congrArg Value.int (by decide)) ?_
  refine x_in rfl rfl rfl ?_
  refine x_top (show _ = Value.int ((5 : Int32)) from congrArg Value.int (by decide)) ?_
  refine x_in rfl rfl rfl ?_
  refine x_hs0 ?_
  refine x_iinc (z := (0 : Int32)) rfl rfl (by decide) ?_
  refine x_in rfl rfl rfl ?_
  refine x_in rfl rfl rfl ?_
  refine x_in rfl rfl rfl ?_
  refine x_in rfl rfl rfl ?_
  refine x_in rfl rfl rfl ?_
  refine x_in rfl rfl rfl ?_
  refine x_in rfl rfl rfl ?_
  refine x_in rfl rfl rfl ?_
  refine x_in rfl rfl rfl ?_
  refine x_in rfl rfl rfl ?_
  refine x_in rfl rfl rfl ?_
  refine x_top (show _ = Value.int ((8 : Int32)) from congrArg Value.int (by decide)) ?_
  refine x_in rfl rfl rfl ?_
  refine x_in rfl rfl rfl ?_
  refine x_top (show _ = Value.int ((0 : Int32)) from congrArg Value.int (by decide)) ?_
  refine x_in rfl rfl rfl ?_
  refine x_in rfl rfl rfl ?_
  refine x_gen (fun v6 => ?_)
  refine x_in rfl rfl rfl ?_
  refine x_top (show _ = Value.int ((255 : Int32)) from congrArg Value.int (by decide)) ?_
  refine x_in rfl rfl rfl ?_
  refine x_in rfl rfl rfl ?_
  refine x_hs1 (by decide) ?_
  refine x_in rfl rfl rfl ?_
  refine x_in rfl rfl rfl ?_
  refine x_in rfl rfl rfl ?_
  refine x_in rfl rfl rfl ?_
  refine x_in rfl rfl rfl ?_
  refine x_top (show _ = Value.int ((1 : Int32)) from congrArg Value.int (by decide)) ?_
  refine x_in rfl rfl rfl ?_
  refine x_top (show _ = Value.int ((6 : Int32)) from congrArg Value.int (by decide)) ?_
  refine x_in rfl rfl rfl ?_
  refine x_hs0 ?_
  refine x_iinc (z := (-1 : Int32)) rfl rfl (by decide) ?_
  refine x_in rfl rfl rfl ?_
  refine x_in rfl rfl rfl ?_
  refine x_in rfl rfl rfl ?_
  refine x_in rfl rfl rfl ?_
  refine x_in rfl rfl rfl ?_
  refine x_in rfl rfl rfl ?_
  refine x_ret rfl rfl ?_
  refine x_in rfl rfl rfl ?_
  refine x_in rfl rfl rfl ?_
  refine x_in rfl rfl rfl ?_
  refine x_in rfl rfl rfl ?_
  refine x_top (show _ = Value.int ((1 : Int32)) from congrArg Value.int (by decide)) ?_
  refine x_in rfl rfl rfl ?_
  refine x_top (show _ = Value.int ((1 : Int32)) from congrArg Value.int (by decide)) ?_
  refine x_in rfl rfl rfl ?_
  refine x_in rfl rfl rfl ?_
  refine x_in rfl rfl rfl ?_
  refine x_top (show _ = Value.int ((32 : Int32)) from congrArg Value.int (by decide)) ?_
  refine x_in rfl rfl rfl ?_
  refine x_in rfl rfl rfl ?_
  refine x_in rfl rfl rfl ?_
  refine x_in rfl rfl rfl ?_
  refine x_top (show _ = Value.int ((2 : Int32)) from congrArg Value.int (by decide)) ?_
  refine x_in rfl rfl rfl ?_
  refine x_top (show _ = Value.int ((2 : Int32)) from congrArg Value.int (by decide)) ?_
  refine x_in rfl rfl rfl ?_
  refine x_in rfl rfl rfl ?_
  refine x_in rfl rfl rfl ?_
  refine x_in rfl rfl rfl ?_
  refine x_in rfl rfl rfl ?_
  refine x_in rfl rfl rfl ?_
  refine x_in rfl rfl rfl ?_
  refine x_in rfl rfl rfl ?_
  refine x_top (show _ = Value.int ((3 : Int32)) from congrArg Value.int (by decide)) ?_
  refine x_in rfl rfl rfl ?_
  refine x_top (show _ = Value.int ((3 : Int32)) from congrArg Value.int (by decide)) ?_
  refine x_in rfl rfl rfl ?_
  refine x_cV rfl rfl rfl rfl ⟨rfl, (Nat.le_of_ble_eq_true rfl), (Nat.le_of_ble_eq_true rfl)⟩ (x_enter (Nat.le_of_ble_eq_true rfl) ?_)
  refine x_in rfl rfl rfl ?_
  refine x_in rfl rfl rfl ?_
  refine x_top (show _ = Value.int ((1 : Int32)) from congrArg Value.int (by decide)) ?_
  refine x_in rfl rfl rfl ?_
  refine x_top (show _ = Value.int ((8 : Int32)) from congrArg Value.int (by decide)) ?_
  refine x_cS rfl (by decide) rfl rfl ⟨(Nat.le_of_ble_eq_true rfl), (Nat.le_of_ble_eq_true rfl)⟩ (x_enter (Nat.le_of_ble_eq_true rfl) ?_)
  refine x_in rfl rfl rfl ?_
  refine x_in rfl rfl rfl ?_
  refine x_in rfl rfl rfl ?_
  refine x_in rfl rfl rfl ?_
  refine x_in rfl rfl rfl ?_
  refine x_in rfl rfl rfl ?_
  refine x_in rfl rfl rfl ?_
  refine x_top (show _ = Value.int ((1 : Int32)) from congrArg Value.int (by decide)) ?_
  refine x_in rfl rfl rfl ?_
  refine x_ret rfl rfl ?_
  refine x_in rfl rfl rfl ?_
  refine x_in rfl rfl rfl ?_
  refine x_in rfl rfl rfl ?_
  refine x_in rfl rfl rfl ?_
  refine x_top (show _ = Value.int ((6 : Int32)) from congrArg Value.int (by decide)) ?_
  refine x_in rfl rfl rfl ?_
  refine x_in rfl rfl rfl ?_
  refine x_in rfl rfl rfl ?_
  refine x_top (show _ = Value.int ((6 : Int32)) from congrArg Value.int (by decide)) ?_
  refine x_in rfl rfl rfl ?_
  refine x_top (show _ = Value.int ((160 : Int32)) from congrArg Value.int (by decide)) ?_
  refine x_in rfl rfl rfl ?_
  refine x_in rfl rfl rfl ?_
  refine x_in rfl rfl rfl ?_
  refine x_top (show _ = Value.int ((1 : Int32)) from congrArg Value.int (by decide)) ?_
  refine x_in rfl rfl rfl ?_
  refine x_top (show _ = Value.int ((5 : Int32)) from congrArg Value.int (by decide)) ?_
  refine x_in rfl rfl rfl ?_
  refine x_in rfl rfl rfl ?_
  refine x_in rfl rfl rfl ?_
  refine x_in rfl rfl rfl ?_
  refine x_in rfl rfl rfl ?_
  refine x_in rfl rfl rfl ?_
  refine x_top (show _ = Value.int ((10 : Int32)) from congrArg Value.int (by decide)) ?_
  refine x_in rfl rfl rfl ?_
  refine x_in rfl rfl rfl ?_
  refine x_in rfl rfl rfl ?_
  refine x_top (show _ = Value.int ((6 : Int32)) from congrArg Value.int (by decide)) ?_
  refine x_in rfl rfl rfl ?_
  refine x_in rfl rfl rfl ?_
  refine x_top (show _ = Value.int ((10 : Int32)) from congrArg Value.int (by decide)) ?_
  refine x_in rfl rfl rfl ?_
  refine x_in rfl rfl rfl ?_
  refine x_top (show _ = Value.int ((8 : Int32)) from congrArg Value.int (by decide)) ?_
  refine x_in rfl rfl rfl ?_
  refine x_in rfl rfl rfl ?_
  refine x_top (show _ = Value.int ((40 : Int32)) from congrArg Value.int (by decide)) ?_
  refine x_in rfl rfl rfl ?_
  refine x_in rfl rfl rfl ?_
  refine x_in rfl rfl rfl ?_
  refine x_in rfl rfl rfl ?_
  refine x_gen (fun v7 => ?_)
  refine x_in rfl rfl rfl ?_
  refine x_in rfl rfl rfl ?_
  refine x_in rfl rfl rfl ?_
  refine x_in rfl rfl rfl ?_
  refine x_top (show _ = Value.int ((6 : Int32)) from congrArg Value.int (by decide)) ?_
  refine x_in rfl rfl rfl ?_
  refine x_in rfl rfl rfl ?_
  refine x_in rfl rfl rfl ?_
  refine x_top (show _ = Value.int ((1 : Int32)) from congrArg Value.int (by decide)) ?_
  refine x_in rfl rfl rfl ?_
  refine x_top (show _ = Value.int ((1 : Int32)) from congrArg Value.int (by decide)) ?_
  refine x_in rfl rfl rfl ?_
  refine x_hs0 ?_
  refine x_iinc (z := (4 : Int32)) rfl rfl (by decide) ?_
  refine x_in rfl rfl rfl ?_
  refine x_in rfl rfl rfl ?_
  refine x_in rfl rfl rfl ?_
  refine x_in rfl rfl rfl ?_
  refine x_in rfl rfl rfl ?_
  refine x_in rfl rfl rfl ?_
  refine x_top (show _ = Value.int ((10 : Int32)) from congrArg Value.int (by decide)) ?_
  refine x_in rfl rfl rfl ?_
  refine x_in rfl rfl rfl ?_
  refine x_in rfl rfl rfl ?_
  refine x_top (show _ = Value.int ((6 : Int32)) from congrArg Value.int (by decide)) ?_
  refine x_in rfl rfl rfl ?_
  refine x_in rfl rfl rfl ?_
  refine x_top (show _ = Value.int ((11 : Int32)) from congrArg Value.int (by decide)) ?_
  refine x_in rfl rfl rfl ?_
  refine x_in rfl rfl rfl ?_
  refine x_top (show _ = Value.int ((8 : Int32)) from congrArg Value.int (by decide)) ?_
  refine x_in rfl rfl rfl ?_
  refine x_in rfl rfl rfl ?_
  refine x_top (show _ = Value.int ((32 : Int32)) from congrArg Value.int (by decide)) ?_
  refine x_in rfl rfl rfl ?_
  refine x_in rfl rfl rfl ?_
  refine x_in rfl rfl rfl ?_
  refine x_in rfl rfl rfl ?_
  refine x_gen (fun v8 => ?_)
  refine x_in rfl rfl rfl ?_
  refine x_hs0 ?_
  refine x_in rfl rfl rfl ?_
  refine x_in rfl rfl rfl ?_
  refine x_in rfl rfl rfl ?_
  refine x_top (show _ = Value.int ((6 : Int32)) from congrArg Value.int (by decide)) ?_
  refine x_in rfl rfl rfl ?_
  refine x_in rfl rfl rfl ?_
  refine x_in rfl rfl rfl ?_
  refine x_top (show _ = Value.int ((1 : Int32)) from congrArg Value.int (by decide)) ?_
  refine x_in rfl rfl rfl ?_
  refine x_top (show _ = Value.int ((2 : Int32)) from congrArg Value.int (by decide)) ?_
  refine x_in rfl rfl rfl ?_
  refine x_hs0 ?_
  refine x_iinc (z := (3 : Int32)) rfl rfl (by decide) ?_
  refine x_in rfl rfl rfl ?_
  refine x_in rfl rfl rfl ?_
  refine x_in rfl rfl rfl ?_
  refine x_in rfl rfl rfl ?_
  refine x_in rfl rfl rfl ?_
  refine x_in rfl rfl rfl ?_
  refine x_top (show _ = Value.int ((10 : Int32)) from congrArg Value.int (by decide)) ?_
  refine x_in rfl rfl rfl ?_
  refine x_in rfl rfl rfl ?_
  refine x_in rfl rfl rfl ?_
  refine x_top (show _ = Value.int ((6 : Int32)) from congrArg Value.int (by decide)) ?_
  refine x_in rfl rfl rfl ?_
  refine x_in rfl rfl rfl ?_
  refine x_top (show _ = Value.int ((12 : Int32)) from congrArg Value.int (by decide)) ?_
  refine x_in rfl rfl rfl ?_
  refine x_in rfl rfl rfl ?_
  refine x_top (show _ = Value.int ((8 : Int32)) from congrArg Value.int (by decide)) ?_
  refine x_in rfl rfl rfl ?_
  refine x_in rfl rfl rfl ?_
  refine x_top (show _ = Value.int ((24 : Int32)) from congrArg Value.int (by decide)) ?_
  refine x_in rfl rfl rfl ?_
  refine x_in rfl rfl rfl ?_
  refine x_in rfl rfl rfl ?_
  refine x_in rfl rfl rfl ?_
  refine x_gen (fun v9 => ?_)
  refine x_in rfl rfl rfl ?_
  refine x_hs0 ?_
  refine x_in rfl rfl rfl ?_
  refine x_in rfl rfl rfl ?_
  refine x_in rfl rfl rfl ?_
  refine x_top (show _ = Value.int ((6 : Int32)) from congrArg Value.int (by decide)) ?_
  refine x_in rfl rfl rfl ?_
  refine x_in rfl rfl rfl ?_
  refine x_in rfl rfl rfl ?_
  refine x_top (show _ = Value.int ((1 : Int32)) from congrArg Value.int (by decide)) ?_
  refine x_in rfl rfl rfl ?_
  refine x_top (show _ = Value.int ((3 : Int32)) from congrArg Value.int (by decide)) ?_
  refine x_in rfl rfl rfl ?_
  refine x_hs0 ?_
  refine x_iinc (z := (2 : Int32)) rfl rfl (by decide) ?_
  refine x_in rfl rfl rfl ?_
  refine x_in rfl rfl rfl ?_
  refine x_in rfl rfl rfl ?_
  refine x_in rfl rfl rfl ?_
  refine x_in rfl rfl rfl ?_
  refine x_in rfl rfl rfl ?_
  refine x_top (show _ = Value.int ((10 : Int32)) from congrArg Value.int (by decide)) ?_
  refine x_in rfl rfl rfl ?_
  refine x_in rfl rfl rfl ?_
  refine x_in rfl rfl rfl ?_
  refine x_top (show _ = Value.int ((6 : Int32)) from congrArg Value.int (by decide)) ?_
  refine x_in rfl rfl rfl ?_
  refine x_in rfl rfl rfl ?_
  refine x_top (show _ = Value.int ((13 : Int32)) from congrArg Value.int (by decide)) ?_
  refine x_in rfl rfl rfl ?_
  refine x_in rfl rfl rfl ?_
  refine x_top (show _ = Value.int ((8 : Int32)) from congrArg Value.int (by decide)) ?_
  refine x_in rfl rfl rfl ?_
  refine x_in rfl rfl rfl ?_
  refine x_top (show _ = Value.int ((16 : Int32)) from congrArg Value.int (by decide)) ?_
  refine x_in rfl rfl rfl ?_
  refine x_in rfl rfl rfl ?_
  refine x_in rfl rfl rfl ?_
  refine x_in rfl rfl rfl ?_
  refine x_gen (fun v10 => ?_)
  refine x_in rfl rfl rfl ?_
  refine x_hs0 ?_
  refine x_in rfl rfl rfl ?_
  refine x_in rfl rfl rfl ?_
  refine x_in rfl rfl rfl ?_
  refine x_top (show _ = Value.int ((6 : Int32)) from congrArg Value.int (by decide)) ?_
  refine x_in rfl rfl rfl ?_
  refine x_in rfl rfl rfl ?_
  refine x_in rfl rfl rfl ?_
  refine x_top (show _ = Value.int ((1 : Int32)) from congrArg Value.int (by decide)) ?_
  refine x_in rfl rfl rfl ?_
  refine x_top (show _ = Value.int ((4 : Int32)) from congrArg Value.int (by decide)) ?_
  refine x_in rfl rfl rfl ?_
  refine x_hs0 ?_
  refine x_iinc (z := (1 : Int32)) rfl rfl (by decide) ?_
  refine x_in rfl rfl rfl ?_
  refine x_in rfl rfl rfl ?_
  refine x_in rfl rfl rfl ?_
  refine x_in rfl rfl rfl ?_
  refine x_in rfl rfl rfl ?_
  refine x_in rfl rfl rfl ?_
  refine x_top (show _ = Value.int ((10 : Int32)) from congrArg Value.int (by decide)) ?_
  refine x_in rfl rfl rfl ?_
  refine x_in rfl rfl rfl ?_
  refine x_in rfl rfl rfl ?_
  refine x_top (show _ = Value.int ((6 : Int32)) from congrArg Value.int (by decide)) ?_
  refine x_in rfl rfl rfl ?_
  refine x_in rfl rfl rfl ?_
  refine x_top (show _ = Value.int ((14 : Int32)) from congrArg Value.int (by decide)) ?_
  refine x_in rfl rfl rfl ?_
  refine x_in rfl rfl rfl ?_
  refine x_top (show _ = Value.int ((8 : Int32)) from congrArg Value.int (by decide)) ?_
  refine x_in rfl rfl rfl ?_
  refine x_in rfl rfl rfl ?_
  refine x_top (show _ = Value.int ((8 : Int32)) from congrArg Value.int (by decide)) ?_
  refine x_in rfl rfl rfl ?_
  refine x_in rfl rfl rfl ?_
  refine x_in rfl rfl rfl ?_
  refine x_in rfl rfl rfl ?_
  refine x_gen (fun v11 => ?_)
  refine x_in rfl rfl rfl ?_
  refine x_hs0 ?_
  refine x_in rfl rfl rfl ?_
  refine x_in rfl rfl rfl ?_
  refine x_in rfl rfl rfl ?_
  refine x_top (show _ = Value.int ((6 : Int32)) from congrArg Value.int (by decide)) ?_
  refine x_in rfl rfl rfl ?_
  refine x_in rfl rfl rfl ?_
  refine x_in rfl rfl rfl ?_
  refine x_top (show _ = Value.int ((1 : Int32)) from congrArg Value.int (by decide)) ?_
  refine x_in rfl rfl rfl ?_
  refine x_top (show _ = Value.int ((5 : Int32)) from congrArg Value.int (by decide)) ?_
  refine x_in rfl rfl rfl ?_
  refine x_hs0 ?_
  refine x_iinc (z := (0 : Int32)) rfl rfl (by decide) ?_
  refine x_in rfl rfl rfl ?_
  refine x_in rfl rfl rfl ?_
  refine x_in rfl rfl rfl ?_
  refine x_in rfl rfl rfl ?_
  refine x_in rfl rfl rfl ?_
  refine x_in rfl rfl rfl ?_
  refine x_top (show _ = Value.int ((10 : Int32)) from congrArg Value.int (by decide)) ?_
  refine x_in rfl rfl rfl ?_
  refine x_in rfl rfl rfl ?_
  refine x_in rfl rfl rfl ?_
  refine x_top (show _ = Value.int ((6 : Int32)) from congrArg Value.int (by decide)) ?_
  refine x_in rfl rfl rfl ?_
  refine x_in rfl rfl rfl ?_
  refine x_top (show _ = Value.int ((15 : Int32)) from congrArg Value.int (by decide)) ?_
  refine x_in rfl rfl rfl ?_
  refine x_in rfl rfl rfl ?_
  refine x_top (show _ = Value.int ((8 : Int32)) from congrArg Value.int (by decide)) ?_
  refine x_in rfl rfl rfl ?_
  refine x_in rfl rfl rfl ?_
  refine x_top (show _ = Value.int ((0 : Int32)) from congrArg Value.int (by decide)) ?_
  refine x_in rfl rfl rfl ?_
  refine x_in rfl rfl rfl ?_
  refine x_in rfl rfl rfl ?_
  refine x_in rfl rfl rfl ?_
  refine x_gen (fun v12 => ?_)
  refine x_in rfl rfl rfl ?_
  refine x_hs0 ?_
  refine x_in rfl rfl rfl ?_
  refine x_in rfl rfl rfl ?_
  refine x_in rfl rfl rfl ?_
  refine x_top (show _ = Value.int ((6 : Int32)) from congrArg Value.int (by decide)) ?_
  refine x_in rfl rfl rfl ?_
  refine x_in rfl rfl rfl ?_
  refine x_in rfl rfl rfl ?_
  refine x_top (show _ = Value.int ((1 : Int32)) from congrArg Value.int (by decide)) ?_
  refine x_in rfl rfl rfl ?_
  refine x_top (show _ = Value.int ((6 : Int32)) from congrArg Value.int (by decide)) ?_
  refine x_in rfl rfl rfl ?_
  refine x_hs0 ?_
  refine x_iinc (z := (-1 : Int32)) rfl rfl (by decide) ?_
  refine x_in rfl rfl rfl ?_
  refine x_in rfl rfl rfl ?_
  refine x_in rfl rfl rfl ?_
  refine x_in rfl rfl rfl ?_
  refine x_in rfl rfl rfl ?_
  refine x_in rfl rfl rfl ?_
  refine x_top (show _ = Value.int ((6 : Int32)) from congrArg Value.int (by decide)) ?_
  refine x_in rfl rfl rfl ?_
  refine x_ret rfl rfl ?_
  refine x_in rfl rfl rfl ?_
  refine x_iinc (z := (6 : Int32)) rfl rfl (by decide) ?_
  refine x_in rfl rfl rfl ?_
  refine x_in rfl rfl rfl ?_
  refine x_in rfl rfl rfl ?_
  refine x_in rfl rfl rfl ?_
  refine x_top (show _ = Value.int ((6 : Int32)) from rfl) ?_
  refine x_in rfl rfl rfl ?_
  refine x_top (show _ = Value.int ((6 : Int32)) from congrArg Value.int (by decide)) ?_
  refine x_in rfl rfl rfl ?_
  refine x_top (show _ = Value.int ((0 : Int32)) from congrArg Value.int (by decide)) ?_
  refine x_in rfl rfl rfl ?_
  refine x_in rfl rfl rfl ?_
  refine x_top (show _ = Value.int ((1 : Int32)) from congrArg Value.int (by decide)) ?_
  refine x_ret rfl rfl ?_
  exact ⟨rfl, by decide, by decide⟩
end
section
set_option maxRecDepth 100000 in
set_option maxHeartbeats 4000000 in
theorem c_0_7 (n : Nat) (c a1 a2 a4 a5 : Int32) : x_E (m_X [c, a1, a2, 7, a4, a5]) 60 181 193 11164 (n + 300) 156 [(3, .int 0), (2, .ref 170), (1, .ref 0), (0, .ref 1000000)] [] m_h0 lK := by
  refine x_in rfl rfl rfl ?_
  refine x_in rfl rfl rfl ?_
  refine x_in rfl rfl rfl ?_
  refine x_in rfl rfl rfl ?_
  refine x_top (show _ = Value.int ((1 : Int32)) from congrArg Value.int (by decide)) ?_
  refine x_in rfl rfl rfl ?_
  refine x_top (show _ = Value.int ((1 : Int32)) from congrArg Value.int (by decide)) ?_
  refine x_in rfl rfl rfl ?_
  refine x_in rfl rfl rfl ?_
  refine x_in rfl rfl rfl ?_
  refine x_top (show _ = Value.int ((32 : Int32)) from congrArg Value.int (by decide)) ?_
  refine x_in rfl rfl rfl ?_
  refine x_in rfl rfl rfl ?_
  refine x_in rfl rfl rfl ?_
  refine x_in rfl rfl rfl ?_
  refine x_top (show _ = Value.int ((2 : Int32)) from congrArg Value.int (by decide)) ?_
  refine x_in rfl rfl rfl ?_
  refine x_top (show _ = Value.int ((2 : Int32)) from congrArg Value.int (by decide)) ?_
  refine x_in rfl rfl rfl ?_
  refine x_in rfl rfl rfl ?_
  refine x_in rfl rfl rfl ?_
  refine x_in rfl rfl rfl ?_
  refine x_in rfl rfl rfl ?_
  refine x_in rfl rfl rfl ?_
  refine x_in rfl rfl rfl ?_
  refine x_in rfl rfl rfl ?_
  refine x_top (show _ = Value.int ((3 : Int32)) from congrArg Value.int (by decide)) ?_
  refine x_in rfl rfl rfl ?_
  refine x_top (show _ = Value.int ((3 : Int32)) from congrArg Value.int (by decide)) ?_
  refine x_in rfl rfl rfl ?_
  refine x_cV rfl rfl rfl rfl ⟨rfl, (Nat.le_of_ble_eq_true rfl), (Nat.le_of_ble_eq_true rfl)⟩ (x_enter (Nat.le_of_ble_eq_true rfl) ?_)
  refine x_in rfl rfl rfl ?_
  refine x_in rfl rfl rfl ?_
  refine x_top (show _ = Value.int ((1 : Int32)) from congrArg Value.int (by decide)) ?_
  refine x_in rfl rfl rfl ?_
  refine x_in rfl rfl rfl ?_
  refine x_in rfl rfl rfl ?_
  refine x_top (show _ = Value.int ((8 : Int32)) from congrArg Value.int (by decide)) ?_
  refine x_in rfl rfl rfl ?_
  refine x_in rfl rfl rfl ?_
  refine x_in rfl rfl rfl ?_
  refine x_in rfl rfl rfl ?_
  refine x_in rfl rfl rfl ?_
  refine x_in rfl rfl rfl ?_
  refine x_top (show _ = Value.int ((7 : Int32)) from congrArg Value.int (by decide)) ?_
  refine x_in rfl rfl rfl ?_
  refine x_top (show _ = Value.int ((160 : Int32)) from congrArg Value.int (by decide)) ?_
  refine x_in rfl rfl rfl ?_
  refine x_in rfl rfl rfl ?_
  refine x_in rfl rfl rfl ?_
  refine x_top (show _ = Value.int ((1 : Int32)) from congrArg Value.int (by decide)) ?_
  refine x_in rfl rfl rfl ?_
  refine x_top (show _ = Value.int ((6 : Int32)) from congrArg Value.int (by decide)) ?_
  refine x_in rfl rfl rfl ?_
  refine x_in rfl rfl rfl ?_
  refine x_in rfl rfl rfl ?_
  refine x_in rfl rfl rfl ?_
  refine x_in rfl rfl rfl ?_
  refine x_in rfl rfl rfl ?_
  refine x_in rfl rfl rfl ?_
  refine x_in rfl rfl rfl ?_
  refine x_in rfl rfl rfl ?_
  refine x_in rfl rfl rfl ?_
  refine x_in rfl rfl rfl ?_
  refine x_top (show _ = Value.int ((8 : Int32)) from congrArg Value.int (by decide)) ?_
  refine x_in rfl rfl rfl ?_
  refine x_in rfl rfl rfl ?_
  refine x_top (show _ = Value.int ((48 : Int32)) from congrArg Value.int (by decide)) ?_
  refine x_in rfl rfl rfl ?_
  refine x_in rfl rfl rfl ?_
  refine x_gen (fun v1 => ?_)
  refine x_in rfl rfl rfl ?_
  refine x_top (show _ = Value.int ((255 : Int32)) from congrArg Value.int (by decide)) ?_
  refine x_in rfl rfl rfl ?_
  refine x_in rfl rfl rfl ?_
  refine x_in rfl rfl rfl ?_
  refine x_in rfl rfl rfl ?_
  refine x_in rfl rfl rfl ?_
  refine x_in rfl rfl rfl ?_
  refine x_in rfl rfl rfl ?_
  refine x_top (show _ = Value.int ((1 : Int32)) from congrArg Value.int (by decide)) ?_
  refine x_in rfl rfl rfl ?_
  refine x_top (show _ = Value.int ((1 : Int32)) from congrArg Value.int (by decide)) ?_
  refine x_in rfl rfl rfl ?_
  refine x_iinc (z := (5 : Int32)) rfl rfl (by decide) ?_
  refine x_in rfl rfl rfl ?_
  refine x_in rfl rfl rfl ?_
  refine x_in rfl rfl rfl ?_
  refine x_in rfl rfl rfl ?_
  refine x_in rfl rfl rfl ?_
  refine x_in rfl rfl rfl ?_
  refine x_in rfl rfl rfl ?_
  refine x_in rfl rfl rfl ?_
  refine x_in rfl rfl rfl ?_
  refine x_in rfl rfl rfl ?_
  refine x_in rfl rfl rfl ?_
  refine x_top (show _ = Value.int ((8 : Int32)) from congrArg Value.int (by decide)) ?_
  refine x_in rfl rfl rfl ?_
  refine x_in rfl rfl rfl ?_
  refine x_top (show _ = Value.int ((40 : Int32)) from congrArg Value.int (by decide)) ?_
  refine x_in rfl rfl rfl ?_
  refine x_in rfl rfl rfl ?_
  refine x_gen (fun v2 => ?_)
  refine x_in rfl rfl rfl ?_
  refine x_top (show _ = Value.int ((255 : Int32)) from congrArg Value.int (by decide)) ?_
  refine x_in rfl rfl rfl ?_
  refine x_in rfl rfl rfl ?_
  refine x_hs1 (by decide) ?_
  refine x_in rfl rfl rfl ?_
  refine x_in rfl rfl rfl ?_
  refine x_in rfl rfl rfl ?_
  refine x_in rfl rfl rfl ?_
  refine x_in rfl rfl rfl ?_
  refine x_top (show _ = Value.int ((1 : Int32)) from congrArg Value.int (by decide)) ?_
  refine x_in rfl rfl rfl ?_
  refine x_top (show _ = Value.int ((2 : Int32)) from congrArg Value.int (by decide)) ?_
  refine x_in rfl rfl rfl ?_
  refine x_hs0 ?_
  refine x_iinc (z := (4 : Int32)) rfl rfl (by decide) ?_
  refine x_in rfl rfl rfl ?_
  refine x_in rfl rfl rfl ?_
  refine x_in rfl rfl rfl ?_
  refine x_in rfl rfl rfl ?_
  refine x_in rfl rfl rfl ?_
  refine x_in rfl rfl rfl ?_
  refine x_in rfl rfl rfl ?_
  refine x_in rfl rfl rfl ?_
  refine x_in rfl rfl rfl ?_
  refine x_in rfl rfl rfl ?_
  refine x_in rfl rfl rfl ?_
  refine x_top (show _ = Value.int ((8 : Int32)) from congrArg Value.int (by decide)) ?_
  refine x_in rfl rfl rfl ?_
  refine x_in rfl rfl rfl ?_
  refine x_top (show _ = Value.int ((32 : Int32)) from congrArg Value.int (by decide)) ?_
  refine x_in rfl rfl rfl ?_
  refine x_in rfl rfl rfl ?_
  refine x_gen (fun v3 => ?_)
  refine x_in rfl rfl rfl ?_
  refine x_top (show _ = Value.int ((255 : Int32)) from congrArg Value.int (by decide)) ?_
  refine x_in rfl rfl rfl ?_
  refine x_in rfl rfl rfl ?_
  refine x_hs1 (by decide) ?_
  refine x_in rfl rfl rfl ?_
  refine x_in rfl rfl rfl ?_
  refine x_in rfl rfl rfl ?_
  refine x_in rfl rfl rfl ?_
  refine x_in rfl rfl rfl ?_
  refine x_top (show _ = Value.int ((1 : Int32)) from congrArg Value.int (by decide)) ?_
  refine x_in rfl rfl rfl ?_
  refine x_top (show _ = Value.int ((3 : Int32)) from congrArg Value.int (by decide)) ?_
  refine x_in rfl rfl rfl ?_
  refine x_hs0 ?_
  refine x_iinc (z := (3 : Int32)) rfl rfl (by decide) ?_
  refine x_in rfl rfl rfl ?_
  refine x_in rfl rfl rfl ?_
  refine x_in rfl rfl rfl ?_
  refine x_in rfl rfl rfl ?_
  refine x_in rfl rfl rfl ?_
  refine x_in rfl rfl rfl ?_
  refine x_in rfl rfl rfl ?_
  refine x_in rfl rfl rfl ?_
  refine x_in rfl rfl rfl ?_
  refine x_in rfl rfl rfl ?_
  refine x_in rfl rfl rfl ?_
  refine x_top (show _ = Value.int ((8 : Int32)) from congrArg Value.int (by decide)) ?_
  refine x_in rfl rfl rfl ?_
  refine x_in rfl rfl rfl ?_
  refine x_top (show _ = Value.int ((24 : Int32)) from congrArg Value.int (by decide)) ?_
  refine x_in rfl rfl rfl ?_
  refine x_in rfl rfl rfl ?_
  refine x_gen (fun v4 => ?_)
  refine x_in rfl rfl rfl ?_
  refine x_top (show _ = Value.int ((255 : Int32)) from congrArg Value.int (by decide)) ?_
  refine x_in rfl rfl rfl ?_
  refine x_in rfl rfl rfl ?_
  refine x_hs1 (by decide) ?_
  refine x_in rfl rfl rfl ?_
  refine x_in rfl rfl rfl ?_
  refine x_in rfl rfl rfl ?_
  refine x_in rfl rfl rfl ?_
  refine x_in rfl rfl rfl ?_
  refine x_top (show _ = Value.int ((1 : Int32)) from congrArg Value.int (by decide)) ?_
  refine x_in rfl rfl rfl ?_
  refine x_top (show _ = Value.int ((4 : Int32)) from congrArg Value.int (by decide)) ?_
  refine x_in rfl rfl rfl ?_
  refine x_hs0 ?_
  refine x_iinc (z := (2 : Int32)) rfl rfl (by decide) ?_
  refine x_in rfl rfl rfl ?_
  refine x_in rfl rfl rfl ?_
  refine x_in rfl rfl rfl ?_
  refine x_in rfl rfl rfl ?_
  refine x_in rfl rfl rfl ?_
  refine x_in rfl rfl rfl ?_
  refine x_in rfl rfl rfl ?_
  refine x_in rfl rfl rfl ?_
  refine x_in rfl rfl rfl ?_
  refine x_in rfl rfl rfl ?_
  refine x_in rfl rfl rfl ?_
  refine x_top (show _ = Value.int ((8 : Int32)) from congrArg Value.int (by decide)) ?_
  refine x_in rfl rfl rfl ?_
  refine x_in rfl rfl rfl ?_
  refine x_top (show _ = Value.int ((16 : Int32)) from congrArg Value.int (by decide)) ?_
  refine x_in rfl rfl rfl ?_
  refine x_in rfl rfl rfl ?_
  refine x_gen (fun v5 => ?_)
  refine x_in rfl rfl rfl ?_
  refine x_top (show _ = Value.int ((255 : Int32)) from congrArg Value.int (by decide)) ?_
  refine x_in rfl rfl rfl ?_
  refine x_in rfl rfl rfl ?_
  refine x_hs1 (by decide) ?_
  refine x_in rfl rfl rfl ?_
  refine x_in rfl rfl rfl ?_
  refine x_in rfl rfl rfl ?_
  refine x_in rfl rfl rfl ?_
  refine x_in rfl rfl rfl ?_
  refine x_top (show _ = Value.int ((1 : Int32)) from congrArg Value.int (by decide)) ?_
  refine x_in rfl rfl rfl ?_
  refine x_top (show _ = Value.int ((5 : Int32)) from congrArg Value.int (by decide)) ?_
  refine x_in rfl rfl rfl ?_
  refine x_hs0 ?_
  refine x_iinc (z := (1 : Int32)) rfl rfl (by decide) ?_
  refine x_in rfl rfl rfl ?_
  refine x_in rfl rfl rfl ?_
  refine x_in rfl rfl rfl ?_
  refine x_in rfl rfl rfl ?_
  refine x_in rfl rfl rfl ?_
  refine x_in rfl rfl rfl ?_
  refine x_in rfl rfl rfl ?_
  refine x_in rfl rfl rfl ?_
  refine x_in rfl rfl rfl ?_
  refine x_in rfl rfl rfl ?_
  refine x_in rfl rfl rfl ?_
  refine x_top (show _ = Value.int ((8 : Int32)) from congrArg Value.int (by decide)) ?_
  refine x_in rfl rfl rfl ?_
  refine x_in rfl rfl rfl ?_
  refine x_top (show _ = Value.int ((8 : Int32)) from congrArg Value.int (by decide)) ?_
  refine x_in rfl rfl rfl ?_
  refine x_in rfl rfl rfl ?_
  refine x_gen (fun v6 => ?_)
  refine x_in rfl rfl rfl ?_
  refine x_top (show _ = Value.int ((255 : Int32)) from congrArg Value.int (by decide)) ?_
  refine x_in rfl rfl rfl ?_
  refine x_in rfl rfl rfl ?_
  refine x_hs1 (by decide) ?_
  refine x_in rfl rfl rfl ?_
  refine x_in rfl rfl rfl ?_
  refine x_in rfl rfl rfl ?_
  refine x_in rfl rfl rfl ?_
  refine x_in rfl rfl rfl ?_
  refine x_top (show _ = Value.int ((1 : Int32)) from congrArg Value.int (by decide)) ?_
  refine x_in rfl rfl rfl ?_
  refine x_top (show _ = Value.int ((6 : Int32)) from congrArg Value.int (by decide)) ?_
  refine x_in rfl rfl rfl ?_
  refine x_hs0 ?_
  refine x_iinc (z := (0 : Int32)) rfl rfl (by decide) ?_
  refine x_in rfl rfl rfl ?_
  refine x_in rfl rfl rfl ?_
  refine x_in rfl rfl rfl ?_
  refine x_in rfl rfl rfl ?_
  refine x_in rfl rfl rfl ?_
  refine x_in rfl rfl rfl ?_
  refine x_in rfl rfl rfl ?_
  refine x_in rfl rfl rfl ?_
  refine x_in rfl rfl rfl ?_
  refine x_in rfl rfl rfl ?_
  refine x_in rfl rfl rfl ?_
  refine x_top (show _ = Value.int ((8 : Int32)) from congrArg Value.int (by decide)) ?_
  refine x_in rfl rfl rfl ?_
  refine x_in rfl rfl rfl ?_
  refine x_top (show _ = Value.int ((0 : Int32)) from congrArg Value.int (by decide)) ?_
  refine x_in rfl rfl rfl ?_
  refine x_in rfl rfl rfl ?_
  refine x_gen (fun v7 => ?_)
  refine x_in rfl rfl rfl ?_
  refine x_top (show _ = Value.int ((255 : Int32)) from congrArg Value.int (by decide)) ?_
  refine x_in rfl rfl rfl ?_
  refine x_in rfl rfl rfl ?_
  refine x_hs1 (by decide) ?_
  refine x_in rfl rfl rfl ?_
  refine x_in rfl rfl rfl ?_
  refine x_in rfl rfl rfl ?_
  refine x_in rfl rfl rfl ?_
  refine x_in rfl rfl rfl ?_
  refine x_top (show _ = Value.int ((1 : Int32)) from congrArg Value.int (by decide)) ?_
  refine x_in rfl rfl rfl ?_
  refine x_top (show _ = Value.int ((7 : Int32)) from congrArg Value.int (by decide)) ?_
  refine x_in rfl rfl rfl ?_
  refine x_hs0 ?_
  refine x_iinc (z := (-1 : Int32)) rfl rfl (by decide) ?_
  refine x_in rfl rfl rfl ?_
  refine x_in rfl rfl rfl ?_
  refine x_in rfl rfl rfl ?_
  refine x_in rfl rfl rfl ?_
  refine x_in rfl rfl rfl ?_
  refine x_in rfl rfl rfl ?_
  refine x_ret rfl rfl ?_
  refine x_in rfl rfl rfl ?_
  refine x_in rfl rfl rfl ?_
  refine x_in rfl rfl rfl ?_
  refine x_in rfl rfl rfl ?_
  refine x_top (show _ = Value.int ((1 : Int32)) from congrArg Value.int (by decide)) ?_
  refine x_in rfl rfl rfl ?_
  refine x_top (show _ = Value.int ((1 : Int32)) from congrArg Value.int (by decide)) ?_
  refine x_in rfl rfl rfl ?_
  refine x_in rfl rfl rfl ?_
  refine x_in rfl rfl rfl ?_
  refine x_top (show _ = Value.int ((32 : Int32)) from congrArg Value.int (by decide)) ?_
  refine x_in rfl rfl rfl ?_
  refine x_in rfl rfl rfl ?_
  refine x_in rfl rfl rfl ?_
  refine x_in rfl rfl rfl ?_
  refine x_top (show _ = Value.int ((2 : Int32)) from congrArg Value.int (by decide)) ?_
  refine x_in rfl rfl rfl ?_
  refine x_top (show _ = Value.int ((2 : Int32)) from congrArg Value.int (by decide)) ?_
  refine x_in rfl rfl rfl ?_
  refine x_in rfl rfl rfl ?_
  refine x_in rfl rfl rfl ?_
  refine x_in rfl rfl rfl ?_
  refine x_in rfl rfl rfl ?_
  refine x_in rfl rfl rfl ?_
  refine x_in rfl rfl rfl ?_
  refine x_in rfl rfl rfl ?_
  refine x_top (show _ = Value.int ((3 : Int32)) from congrArg Value.int (by decide)) ?_
  refine x_in rfl rfl rfl ?_
  refine x_top (show _ = Value.int ((3 : Int32)) from congrArg Value.int (by decide)) ?_
  refine x_in rfl rfl rfl ?_
  refine x_cV rfl rfl rfl rfl ⟨rfl, (Nat.le_of_ble_eq_true rfl), (Nat.le_of_ble_eq_true rfl)⟩ (x_enter (Nat.le_of_ble_eq_true rfl) ?_)
  refine x_in rfl rfl rfl ?_
  refine x_in rfl rfl rfl ?_
  refine x_top (show _ = Value.int ((1 : Int32)) from congrArg Value.int (by decide)) ?_
  refine x_in rfl rfl rfl ?_
  refine x_top (show _ = Value.int ((8 : Int32)) from congrArg Value.int (by decide)) ?_
  refine x_cS rfl (by decide) rfl rfl ⟨(Nat.le_of_ble_eq_true rfl), (Nat.le_of_ble_eq_true rfl)⟩ (x_enter (Nat.le_of_ble_eq_true rfl) ?_)
  refine x_in rfl rfl rfl ?_
  refine x_in rfl rfl rfl ?_
  refine x_in rfl rfl rfl ?_
  refine x_in rfl rfl rfl ?_
  refine x_in rfl rfl rfl ?_
  refine x_in rfl rfl rfl ?_
  refine x_in rfl rfl rfl ?_
  refine x_top (show _ = Value.int ((1 : Int32)) from congrArg Value.int (by decide)) ?_
  refine x_in rfl rfl rfl ?_
  refine x_ret rfl rfl ?_
  refine x_in rfl rfl rfl ?_
  refine x_in rfl rfl rfl ?_
  refine x_in rfl rfl rfl ?_
  refine x_in rfl rfl rfl ?_
  refine x_top (show _ = Value.int ((6 : Int32)) from congrArg Value.int (by decide)) ?_
  refine x_in rfl rfl rfl ?_
  refine x_in rfl rfl rfl ?_
  refine x_in rfl rfl rfl ?_
  refine x_top (show _ = Value.int ((7 : Int32)) from congrArg Value.int (by decide)) ?_
  refine x_in rfl rfl rfl ?_
  refine x_top (show _ = Value.int ((160 : Int32)) from congrArg Value.int (by decide)) ?_
  refine x_in rfl rfl rfl ?_
  refine x_in rfl rfl rfl ?_
  refine x_in rfl rfl rfl ?_
  refine x_top (show _ = Value.int ((1 : Int32)) from congrArg Value.int (by decide)) ?_
  refine x_in rfl rfl rfl ?_
  refine x_top (show _ = Value.int ((6 : Int32)) from congrArg Value.int (by decide)) ?_
  refine x_in rfl rfl rfl ?_
  refine x_in rfl rfl rfl ?_
  refine x_in rfl rfl rfl ?_
  refine x_in rfl rfl rfl ?_
  refine x_in rfl rfl rfl ?_
  refine x_in rfl rfl rfl ?_
  refine x_top (show _ = Value.int ((10 : Int32)) from congrArg Value.int (by decide)) ?_
  refine x_in rfl rfl rfl ?_
  refine x_in rfl rfl rfl ?_
  refine x_in rfl rfl rfl ?_
  refine x_top (show _ = Value.int ((6 : Int32)) from congrArg Value.int (by decide)) ?_
  refine x_in rfl rfl rfl ?_
  refine x_in rfl rfl rfl ?_
  refine x_top (show _ = Value.int ((10 : Int32)) from congrArg Value.int (by decide)) ?_
  refine x_in rfl rfl rfl ?_
  refine x_in rfl rfl rfl ?_
  refine x_top (show _ = Value.int ((8 : Int32)) from congrArg Value.int (by decide)) ?_
  refine x_in rfl rfl rfl ?_
  refine x_in rfl rfl rfl ?_
  refine x_top (show _ = Value.int ((48 : Int32)) from congrArg Value.int (by decide)) ?_
  refine x_in rfl rfl rfl ?_
  refine x_in rfl rfl rfl ?_
  refine x_in rfl rfl rfl ?_
  refine x_in rfl rfl rfl ?_
  refine x_gen (fun v8 => ?_)
  refine x_in rfl rfl rfl ?_
  refine x_in rfl rfl rfl ?_
  refine x_in rfl rfl rfl ?_
  refine x_in rfl rfl rfl ?_
  refine x_top (show _ = Value.int ((6 : Int32)) from congrArg Value.int (by decide)) ?_
  refine x_in rfl rfl rfl ?_
  refine x_in rfl rfl rfl ?_
  refine x_in rfl rfl rfl ?_
  refine x_top (show _ = Value.int ((1 : Int32)) from congrArg Value.int (by decide)) ?_
  refine x_in rfl rfl rfl ?_
  refine x_top (show _ = Value.int ((1 : Int32)) from congrArg Value.int (by decide)) ?_
  refine x_in rfl rfl rfl ?_
  refine x_hs0 ?_
  refine x_iinc (z := (5 : Int32)) rfl rfl (by decide) ?_
  refine x_in rfl rfl rfl ?_
  refine x_in rfl rfl rfl ?_
  refine x_in rfl rfl rfl ?_
  refine x_in rfl rfl rfl ?_
  refine x_in rfl rfl rfl ?_
  refine x_in rfl rfl rfl ?_
  refine x_top (show _ = Value.int ((10 : Int32)) from congrArg Value.int (by decide)) ?_
  refine x_in rfl rfl rfl ?_
  refine x_in rfl rfl rfl ?_
  refine x_in rfl rfl rfl ?_
  refine x_top (show _ = Value.int ((6 : Int32)) from congrArg Value.int (by decide)) ?_
  refine x_in rfl rfl rfl ?_
  refine x_in rfl rfl rfl ?_
  refine x_top (show _ = Value.int ((11 : Int32)) from congrArg Value.int (by decide)) ?_
  refine x_in rfl rfl rfl ?_
  refine x_in rfl rfl rfl ?_
  refine x_top (show _ = Value.int ((8 : Int32)) from congrArg Value.int (by decide)) ?_
  refine x_in rfl rfl rfl ?_
  refine x_in rfl rfl rfl ?_
  refine x_top (show _ = Value.int ((40 : Int32)) from congrArg Value.int (by decide)) ?_
  refine x_in rfl rfl rfl ?_
  refine x_in rfl rfl rfl ?_
  refine x_in rfl rfl rfl ?_
  refine x_in rfl rfl rfl ?_
  refine x_gen (fun v9 => ?_)
  refine x_in rfl rfl rfl ?_
  refine x_hs0 ?_
  refine x_in rfl rfl rfl ?_
  refine x_in rfl rfl rfl ?_
  refine x_in rfl rfl rfl ?_
  refine x_top (show _ = Value.int ((6 : Int32)) from congrArg Value.int (by decide)) ?_
  refine x_in rfl rfl rfl ?_
  refine x_in rfl rfl rfl ?_
  refine x_in rfl rfl rfl ?_
  refine x_top (show _ = Value.int ((1 : Int32)) from congrArg Value.int (by decide)) ?_
  refine x_in rfl rfl rfl ?_
  refine x_top (show _ = Value.int ((2 : Int32)) from congrArg Value.int (by decide)) ?_
  refine x_in rfl rfl rfl ?_
  refine x_hs0 ?_
  refine x_iinc (z := (4 : Int32)) rfl rfl (by decide) ?_
  refine x_in rfl rfl rfl ?_
  refine x_in rfl rfl rfl ?_
  refine x_in rfl rfl rfl ?_
  refine x_in rfl rfl rfl ?_
  refine x_in rfl rfl rfl ?_
  refine x_in rfl rfl rfl ?_
  refine x_top (show _ = Value.int ((10 : Int32)) from congrArg Value.int (by decide)) ?_
  refine x_in rfl rfl rfl ?_
  refine x_in rfl rfl rfl ?_
  refine x_in rfl rfl rfl ?_
  refine x_top (show _ = Value.int ((6 : Int32)) from congrArg Value.int (by decide)) ?_
  refine x_in rfl rfl rfl ?_
  refine x_in rfl rfl rfl ?_
  refine x_top (show _ = Value.int ((12 : Int32)) from congrArg Value.int (by decide)) ?_
  refine x_in rfl rfl rfl ?_
  refine x_in rfl rfl rfl ?_
  refine x_top (show _ = Value.int ((8 : Int32)) from congrArg Value.int (by decide)) ?_
  refine x_in rfl rfl rfl ?_
  refine x_in rfl rfl rfl ?_
  refine x_top (show _ = Value.int ((32 : Int32)) from congrArg Value.int (by decide)) ?_
  refine x_in rfl rfl rfl ?_
  refine x_in rfl rfl rfl ?_
  refine x_in rfl rfl rfl ?_
  refine x_in rfl rfl rfl ?_
  refine x_gen (fun v10 => ?_)
  refine x_in rfl rfl rfl ?_
  refine x_hs0 ?_
  refine x_in rfl rfl rfl ?_
  refine x_in rfl rfl rfl ?_
  refine x_in rfl rfl rfl ?_
  refine x_top (show _ = Value.int ((6 : Int32)) from congrArg Value.int (by decide)) ?_
  refine x_in rfl rfl rfl ?_
  refine x_in rfl rfl rfl ?_
  refine x_in rfl rfl rfl ?_
  refine x_top (show _ = Value.int ((1 : Int32)) from congrArg Value.int (by decide)) ?_
  refine x_in rfl rfl rfl ?_
  refine x_top (show _ = Value.int ((3 : Int32)) from congrArg Value.int (by decide)) ?_
  refine x_in rfl rfl rfl ?_
  refine x_hs0 ?_
  refine x_iinc (z := (3 : Int32)) rfl rfl (by decide) ?_
  refine x_in rfl rfl rfl ?_
  refine x_in rfl rfl rfl ?_
  refine x_in rfl rfl rfl ?_
  refine x_in rfl rfl rfl ?_
  refine x_in rfl rfl rfl ?_
  refine x_in rfl rfl rfl ?_
  refine x_top (show _ = Value.int ((10 : Int32)) from congrArg Value.int (by decide)) ?_
  refine x_in rfl rfl rfl ?_
  refine x_in rfl rfl rfl ?_
  refine x_in rfl rfl rfl ?_
  refine x_top (show _ = Value.int ((6 : Int32)) from congrArg Value.int (by decide)) ?_
  refine x_in rfl rfl rfl ?_
  refine x_in rfl rfl rfl ?_
  refine x_top (show _ = Value.int ((13 : Int32)) from congrArg Value.int (by decide)) ?_
  refine x_in rfl rfl rfl ?_
  refine x_in rfl rfl rfl ?_
  refine x_top (show _ = Value.int ((8 : Int32)) from congrArg Value.int (by decide)) ?_
  refine x_in rfl rfl rfl ?_
  refine x_in rfl rfl rfl ?_
  refine x_top (show _ = Value.int ((24 : Int32)) from congrArg Value.int (by decide)) ?_
  refine x_in rfl rfl rfl ?_
  refine x_in rfl rfl rfl ?_
  refine x_in rfl rfl rfl ?_
  refine x_in rfl rfl rfl ?_
  refine x_gen (fun v11 => ?_)
  refine x_in rfl rfl rfl ?_
  refine x_hs0 ?_
  refine x_in rfl rfl rfl ?_
  refine x_in rfl rfl rfl ?_
  refine x_in rfl rfl rfl ?_
  refine x_top (show _ = Value.int ((6 : Int32)) from congrArg Value.int (by decide)) ?_
  refine x_in rfl rfl rfl ?_
  refine x_in rfl rfl rfl ?_
  refine x_in rfl rfl rfl ?_
  refine x_top (show _ = Value.int ((1 : Int32)) from congrArg Value.int (by decide)) ?_
  refine x_in rfl rfl rfl ?_
  refine x_top (show _ = Value.int ((4 : Int32)) from congrArg Value.int (by decide)) ?_
  refine x_in rfl rfl rfl ?_
  refine x_hs0 ?_
  refine x_iinc (z := (2 : Int32)) rfl rfl (by decide) ?_
  refine x_in rfl rfl rfl ?_
  refine x_in rfl rfl rfl ?_
  refine x_in rfl rfl rfl ?_
  refine x_in rfl rfl rfl ?_
  refine x_in rfl rfl rfl ?_
  refine x_in rfl rfl rfl ?_
  refine x_top (show _ = Value.int ((10 : Int32)) from congrArg Value.int (by decide)) ?_
  refine x_in rfl rfl rfl ?_
  refine x_in rfl rfl rfl ?_
  refine x_in rfl rfl rfl ?_
  refine x_top (show _ = Value.int ((6 : Int32)) from congrArg Value.int (by decide)) ?_
  refine x_in rfl rfl rfl ?_
  refine x_in rfl rfl rfl ?_
  refine x_top (show _ = Value.int ((14 : Int32)) from congrArg Value.int (by decide)) ?_
  refine x_in rfl rfl rfl ?_
  refine x_in rfl rfl rfl ?_
  refine x_top (show _ = Value.int ((8 : Int32)) from congrArg Value.int (by decide)) ?_
  refine x_in rfl rfl rfl ?_
  refine x_in rfl rfl rfl ?_
  refine x_top (show _ = Value.int ((16 : Int32)) from congrArg Value.int (by decide)) ?_
  refine x_in rfl rfl rfl ?_
  refine x_in rfl rfl rfl ?_
  refine x_in rfl rfl rfl ?_
  refine x_in rfl rfl rfl ?_
  refine x_gen (fun v12 => ?_)
  refine x_in rfl rfl rfl ?_
  refine x_hs0 ?_
  refine x_in rfl rfl rfl ?_
  refine x_in rfl rfl rfl ?_
  refine x_in rfl rfl rfl ?_
  refine x_top (show _ = Value.int ((6 : Int32)) from congrArg Value.int (by decide)) ?_
  refine x_in rfl rfl rfl ?_
  refine x_in rfl rfl rfl ?_
  refine x_in rfl rfl rfl ?_
  refine x_top (show _ = Value.int ((1 : Int32)) from congrArg Value.int (by decide)) ?_
  refine x_in rfl rfl rfl ?_
  refine x_top (show _ = Value.int ((5 : Int32)) from congrArg Value.int (by decide)) ?_
  refine x_in rfl rfl rfl ?_
  refine x_hs0 ?_
  refine x_iinc (z := (1 : Int32)) rfl rfl (by decide) ?_
  refine x_in rfl rfl rfl ?_
  refine x_in rfl rfl rfl ?_
  refine x_in rfl rfl rfl ?_
  refine x_in rfl rfl rfl ?_
  refine x_in rfl rfl rfl ?_
  refine x_in rfl rfl rfl ?_
  refine x_top (show _ = Value.int ((10 : Int32)) from congrArg Value.int (by decide)) ?_
  refine x_in rfl rfl rfl ?_
  refine x_in rfl rfl rfl ?_
  refine x_in rfl rfl rfl ?_
  refine x_top (show _ = Value.int ((6 : Int32)) from congrArg Value.int (by decide)) ?_
  refine x_in rfl rfl rfl ?_
  refine x_in rfl rfl rfl ?_
  refine x_top (show _ = Value.int ((15 : Int32)) from congrArg Value.int (by decide)) ?_
  refine x_in rfl rfl rfl ?_
  refine x_in rfl rfl rfl ?_
  refine x_top (show _ = Value.int ((8 : Int32)) from congrArg Value.int (by decide)) ?_
  refine x_in rfl rfl rfl ?_
  refine x_in rfl rfl rfl ?_
  refine x_top (show _ = Value.int ((8 : Int32)) from congrArg Value.int (by decide)) ?_
  refine x_in rfl rfl rfl ?_
  refine x_in rfl rfl rfl ?_
  refine x_in rfl rfl rfl ?_
  refine x_in rfl rfl rfl ?_
  refine x_gen (fun v13 => ?_)
  refine x_in rfl rfl rfl ?_
  refine x_hs0 ?_
  refine x_in rfl rfl rfl ?_
  refine x_in rfl rfl rfl ?_
  refine x_in rfl rfl rfl ?_
  refine x_top (show _ = Value.int ((6 : Int32)) from congrArg Value.int (by decide)) ?_
  refine x_in rfl rfl rfl ?_
  refine x_in rfl rfl rfl ?_
  refine x_in rfl rfl rfl ?_
  refine x_top (show _ = Value.int ((1 : Int32)) from congrArg Value.int (by decide)) ?_
  refine x_in rfl rfl rfl ?_
  refine x_top (show _ = Value.int ((6 : Int32)) from congrArg Value.int (by decide)) ?_
  refine x_in rfl rfl rfl ?_
  refine x_hs0 ?_
  refine x_iinc (z := (0 : Int32)) rfl rfl (by decide) ?_
  refine x_in rfl rfl rfl ?_
  refine x_in rfl rfl rfl ?_
  refine x_in rfl rfl rfl ?_
  refine x_in rfl rfl rfl ?_
  refine x_in rfl rfl rfl ?_
  refine x_in rfl rfl rfl ?_
  refine x_top (show _ = Value.int ((10 : Int32)) from congrArg Value.int (by decide)) ?_
  refine x_in rfl rfl rfl ?_
  refine x_in rfl rfl rfl ?_
  refine x_in rfl rfl rfl ?_
  refine x_top (show _ = Value.int ((6 : Int32)) from congrArg Value.int (by decide)) ?_
  refine x_in rfl rfl rfl ?_
  refine x_in rfl rfl rfl ?_
  refine x_top (show _ = Value.int ((16 : Int32)) from congrArg Value.int (by decide)) ?_
  refine x_in rfl rfl rfl ?_
  refine x_in rfl rfl rfl ?_
  refine x_top (show _ = Value.int ((8 : Int32)) from congrArg Value.int (by decide)) ?_
  refine x_in rfl rfl rfl ?_
  refine x_in rfl rfl rfl ?_
  refine x_top (show _ = Value.int ((0 : Int32)) from congrArg Value.int (by decide)) ?_
  refine x_in rfl rfl rfl ?_
  refine x_in rfl rfl rfl ?_
  refine x_in rfl rfl rfl ?_
  refine x_in rfl rfl rfl ?_
  refine x_gen (fun v14 => ?_)
  refine x_in rfl rfl rfl ?_
  refine x_hs0 ?_
  refine x_in rfl rfl rfl ?_
  refine x_in rfl rfl rfl ?_
  refine x_in rfl rfl rfl ?_
  refine x_top (show _ = Value.int ((6 : Int32)) from congrArg Value.int (by decide)) ?_
  refine x_in rfl rfl rfl ?_
  refine x_in rfl rfl rfl ?_
  refine x_in rfl rfl rfl ?_
  refine x_top (show _ = Value.int ((1 : Int32)) from congrArg Value.int (by decide)) ?_
  refine x_in rfl rfl rfl ?_
  refine x_top (show _ = Value.int ((7 : Int32)) from congrArg Value.int (by decide)) ?_
  refine x_in rfl rfl rfl ?_
  refine x_hs0 ?_
  refine x_iinc (z := (-1 : Int32)) rfl rfl (by decide) ?_
  refine x_in rfl rfl rfl ?_
  refine x_in rfl rfl rfl ?_
  refine x_in rfl rfl rfl ?_
  refine x_in rfl rfl rfl ?_
  refine x_in rfl rfl rfl ?_
  refine x_in rfl rfl rfl ?_
  refine x_top (show _ = Value.int ((6 : Int32)) from congrArg Value.int (by decide)) ?_
  refine x_in rfl rfl rfl ?_
  refine x_ret rfl rfl ?_
  refine x_in rfl rfl rfl ?_
  refine x_iinc (z := (6 : Int32)) rfl rfl (by decide) ?_
  refine x_in rfl rfl rfl ?_
  refine x_in rfl rfl rfl ?_
  refine x_in rfl rfl rfl ?_
  refine x_in rfl rfl rfl ?_
  refine x_top (show _ = Value.int ((6 : Int32)) from rfl) ?_
  refine x_in rfl rfl rfl ?_
  refine x_top (show _ = Value.int ((6 : Int32)) from congrArg Value.int (by decide)) ?_
  refine x_in rfl rfl rfl ?_
  refine x_top (show _ = Value.int ((0 : Int32)) from congrArg Value.int (by decide)) ?_
  refine x_in rfl rfl rfl ?_
  refine x_in rfl rfl rfl ?_
  refine x_top (show _ = Value.int ((1 : Int32)) from congrArg Value.int (by decide)) ?_
  refine x_ret rfl rfl ?_
  exact ⟨rfl, by decide, by decide⟩
set_option maxRecDepth 100000 in
set_option maxHeartbeats 4000000 in
theorem c_0_8 (n : Nat) (c a1 a2 a4 a5 : Int32) : x_E (m_X [c, a1, a2, 8, a4, a5]) 60 181 193 11164 (n + 300) 156 [(3, .int 0), (2, .ref 170), (1, .ref 0), (0, .ref 1000000)] [] m_h0 lK := by
  refine x_in rfl rfl rfl ?_
  refine x_in rfl rfl rfl ?_
  refine x_in rfl rfl rfl ?_
  refine x_in rfl rfl rfl ?_
  refine x_top (show _ = Value.int ((1 : Int32)) from congrArg Value.int (by decide)) ?_
  refine x_in rfl rfl rfl ?_
  refine x_top (show _ = Value.int ((1 : Int32)) from congrArg Value.int (by decide)) ?_
  refine x_in rfl rfl rfl ?_
  refine x_in rfl rfl rfl ?_
  refine x_in rfl rfl rfl ?_
  refine x_top (show _ = Value.int ((32 : Int32)) from congrArg Value.int (by decide)) ?_
  refine x_in rfl rfl rfl ?_
  refine x_in rfl rfl rfl ?_
  refine x_in rfl rfl rfl ?_
  refine x_in rfl rfl rfl ?_
  refine x_top (show _ = Value.int ((2 : Int32)) from congrArg Value.int (by decide)) ?_
  refine x_in rfl rfl rfl ?_
  refine x_top (show _ = Value.int ((2 : Int32)) from congrArg Value.int (by decide)) ?_
  refine x_in rfl rfl rfl ?_
  refine x_in rfl rfl rfl ?_
  refine x_in rfl rfl rfl ?_
  refine x_in rfl rfl rfl ?_
  refine x_in rfl rfl rfl ?_
  refine x_in rfl rfl rfl ?_
  refine x_in rfl rfl rfl ?_
  refine x_in rfl rfl rfl ?_
  refine x_top (show _ = Value.int ((3 : Int32)) from congrArg Value.int (by decide)) ?_
  refine x_in rfl rfl rfl ?_
  refine x_top (show _ = Value.int ((3 : Int32)) from congrArg Value.int (by decide)) ?_
  refine x_in rfl rfl rfl ?_
  refine x_cV rfl rfl rfl rfl ⟨rfl, (Nat.le_of_ble_eq_true rfl), (Nat.le_of_ble_eq_true rfl)⟩ (x_enter (Nat.le_of_ble_eq_true rfl) ?_)
  refine x_in rfl rfl rfl ?_
  refine x_in rfl rfl rfl ?_
  refine x_top (show _ = Value.int ((1 : Int32)) from congrArg Value.int (by decide)) ?_
  refine x_in rfl rfl rfl ?_
  refine x_in rfl rfl rfl ?_
  refine x_in rfl rfl rfl ?_
  refine x_top (show _ = Value.int ((8 : Int32)) from congrArg Value.int (by decide)) ?_
  refine x_in rfl rfl rfl ?_
  refine x_in rfl rfl rfl ?_
  refine x_in rfl rfl rfl ?_
  refine x_in rfl rfl rfl ?_
  refine x_in rfl rfl rfl ?_
  refine x_in rfl rfl rfl ?_
  refine x_top (show _ = Value.int ((8 : Int32)) from congrArg Value.int (by decide)) ?_
  refine x_in rfl rfl rfl ?_
  refine x_top (show _ = Value.int ((160 : Int32)) from congrArg Value.int (by decide)) ?_
  refine x_in rfl rfl rfl ?_
  refine x_in rfl rfl rfl ?_
  refine x_in rfl rfl rfl ?_
  refine x_top (show _ = Value.int ((1 : Int32)) from congrArg Value.int (by decide)) ?_
  refine x_in rfl rfl rfl ?_
  refine x_top (show _ = Value.int ((7 : Int32)) from congrArg Value.int (by decide)) ?_
  refine x_in rfl rfl rfl ?_
  refine x_in rfl rfl rfl ?_
  refine x_in rfl rfl rfl ?_
  refine x_in rfl rfl rfl ?_
  refine x_in rfl rfl rfl ?_
  refine x_in rfl rfl rfl ?_
  refine x_in rfl rfl rfl ?_
  refine x_in rfl rfl rfl ?_
  refine x_in rfl rfl rfl ?_
  refine x_in rfl rfl rfl ?_
  refine x_in rfl rfl rfl ?_
  refine x_top (show _ = Value.int ((8 : Int32)) from congrArg Value.int (by decide)) ?_
  refine x_in rfl rfl rfl ?_
  refine x_in rfl rfl rfl ?_
  refine x_top (show _ = Value.int ((56 : Int32)) from congrArg Value.int (by decide)) ?_
  refine x_in rfl rfl rfl ?_
  refine x_in rfl rfl rfl ?_
  refine x_gen (fun v1 => ?_)
  refine x_in rfl rfl rfl ?_
  refine x_top (show _ = Value.int ((255 : Int32)) from congrArg Value.int (by decide)) ?_
  refine x_in rfl rfl rfl ?_
  refine x_in rfl rfl rfl ?_
  refine x_in rfl rfl rfl ?_
  refine x_in rfl rfl rfl ?_
  refine x_in rfl rfl rfl ?_
  refine x_in rfl rfl rfl ?_
  refine x_in rfl rfl rfl ?_
  refine x_top (show _ = Value.int ((1 : Int32)) from congrArg Value.int (by decide)) ?_
  refine x_in rfl rfl rfl ?_
  refine x_top (show _ = Value.int ((1 : Int32)) from congrArg Value.int (by decide)) ?_
  refine x_in rfl rfl rfl ?_
  refine x_iinc (z := (6 : Int32)) rfl rfl (by decide) ?_
  refine x_in rfl rfl rfl ?_
  refine x_in rfl rfl rfl ?_
  refine x_in rfl rfl rfl ?_
  refine x_in rfl rfl rfl ?_
  refine x_in rfl rfl rfl ?_
  refine x_in rfl rfl rfl ?_
  refine x_in rfl rfl rfl ?_
  refine x_in rfl rfl rfl ?_
  refine x_in rfl rfl rfl ?_
  refine x_in rfl rfl rfl ?_
  refine x_in rfl rfl rfl ?_
  refine x_top (show _ = Value.int ((8 : Int32)) from congrArg Value.int (by decide)) ?_
  refine x_in rfl rfl rfl ?_
  refine x_in rfl rfl rfl ?_
  refine x_top (show _ = Value.int ((48 : Int32)) from congrArg Value.int (by decide)) ?_
  refine x_in rfl rfl rfl ?_
  refine x_in rfl rfl rfl ?_
  refine x_gen (fun v2 => ?_)
  refine x_in rfl rfl rfl ?_
  refine x_top (show _ = Value.int ((255 : Int32)) from congrArg Value.int (by decide)) ?_
  refine x_in rfl rfl rfl ?_
  refine x_in rfl rfl rfl ?_
  refine x_hs1 (by decide) ?_
  refine x_in rfl rfl rfl ?_
  refine x_in rfl rfl rfl ?_
  refine x_in rfl rfl rfl ?_
  refine x_in rfl rfl rfl ?_
  refine x_in rfl rfl rfl ?_
  refine x_top (show _ = Value.int ((1 : Int32)) from congrArg Value.int (by decide)) ?_
  refine x_in rfl rfl rfl ?_
  refine x_top (show _ = Value.int ((2 : Int32)) from congrArg Value.int (by decide)) ?_
  refine x_in rfl rfl rfl ?_
  refine x_hs0 ?_
  refine x_iinc (z := (5 : Int32)) rfl rfl (by decide) ?_
  refine x_in rfl rfl rfl ?_
  refine x_in rfl rfl rfl ?_
  refine x_in rfl rfl rfl ?_
  refine x_in rfl rfl rfl ?_
  refine x_in rfl rfl rfl ?_
  refine x_in rfl rfl rfl ?_
  refine x_in rfl rfl rfl ?_
  refine x_in rfl rfl rfl ?_
  refine x_in rfl rfl rfl ?_
  refine x_in rfl rfl rfl ?_
  refine x_in rfl rfl rfl ?_
  refine x_top (show _ = Value.int ((8 : Int32)) from congrArg Value.int (by decide)) ?_
  refine x_in rfl rfl rfl ?_
  refine x_in rfl rfl rfl ?_
  refine x_top (show _ = Value.int ((40 : Int32)) from congrArg Value.int (by decide)) ?_
  refine x_in rfl rfl rfl ?_
  refine x_in rfl rfl rfl ?_
  refine x_gen (fun v3 => ?_)
  refine x_in rfl rfl rfl ?_
  refine x_top (show _ = Value.int ((255 : Int32)) from congrArg Value.int (by decide)) ?_
  refine x_in rfl rfl rfl ?_
  refine x_in rfl rfl rfl ?_
  refine x_hs1 (by decide) ?_
  refine x_in rfl rfl rfl ?_
  refine x_in rfl rfl rfl ?_
  refine x_in rfl rfl rfl ?_
  refine x_in rfl rfl rfl ?_
  refine x_in rfl rfl rfl ?_
  refine x_top (show _ = Value.int ((1 : Int32)) from congrArg Value.int (by decide)) ?_
  refine x_in rfl rfl rfl ?_
  refine x_top (show _ = Value.int ((3 : Int32)) from congrArg Value.int (by decide)) ?_
  refine x_in rfl rfl rfl ?_
  refine x_hs0 ?_
  refine x_iinc (z := (4 : Int32)) rfl rfl (by decide) ?_
  refine x_in rfl rfl rfl ?_
  refine x_in rfl rfl rfl ?_
  refine x_in rfl rfl rfl ?_
  refine x_in rfl rfl rfl ?_
  refine x_in rfl rfl rfl ?_
  refine x_in rfl rfl rfl ?_
  refine x_in rfl rfl rfl ?_
  refine x_in rfl rfl rfl ?_
  refine x_in rfl rfl rfl ?_
  refine x_in rfl rfl rfl ?_
  refine x_in rfl rfl rfl ?_
  refine x_top (show _ = Value.int ((8 : Int32)) from congrArg Value.int (by decide)) ?_
  refine x_in rfl rfl rfl ?_
  refine x_in rfl rfl rfl ?_
  refine x_top (show _ = Value.int ((32 : Int32)) from congrArg Value.int (by decide)) ?_
  refine x_in rfl rfl rfl ?_
  refine x_in rfl rfl rfl ?_
  refine x_gen (fun v4 => ?_)
  refine x_in rfl rfl rfl ?_
  refine x_top (show _ = Value.int ((255 : Int32)) from congrArg Value.int (by decide)) ?_
  refine x_in rfl rfl rfl ?_
  refine x_in rfl rfl rfl ?_
  refine x_hs1 (by decide) ?_
  refine x_in rfl rfl rfl ?_
  refine x_in rfl rfl rfl ?_
  refine x_in rfl rfl rfl ?_
  refine x_in rfl rfl rfl ?_
  refine x_in rfl rfl rfl ?_
  refine x_top (show _ = Value.int ((1 : Int32)) from congrArg Value.int (by decide)) ?_
  refine x_in rfl rfl rfl ?_
  refine x_top (show _ = Value.int ((4 : Int32)) from congrArg Value.int (by decide)) ?_
  refine x_in rfl rfl rfl ?_
  refine x_hs0 ?_
  refine x_iinc (z := (3 : Int32)) rfl rfl (by decide) ?_
  refine x_in rfl rfl rfl ?_
  refine x_in rfl rfl rfl ?_
  refine x_in rfl rfl rfl ?_
  refine x_in rfl rfl rfl ?_
  refine x_in rfl rfl rfl ?_
  refine x_in rfl rfl rfl ?_
  refine x_in rfl rfl rfl ?_
  refine x_in rfl rfl rfl ?_
  refine x_in rfl rfl rfl ?_
  refine x_in rfl rfl rfl ?_
  refine x_in rfl rfl rfl ?_
  refine x_top (show _ = Value.int ((8 : Int32)) from congrArg Value.int (by decide)) ?_
  refine x_in rfl rfl rfl ?_
  refine x_in rfl rfl rfl ?_
  refine x_top (show _ = Value.int ((24 : Int32)) from congrArg Value.int (by decide)) ?_
  refine x_in rfl rfl rfl ?_
  refine x_in rfl rfl rfl ?_
  refine x_gen (fun v5 => ?_)
  refine x_in rfl rfl rfl ?_
  refine x_top (show _ = Value.int ((255 : Int32)) from congrArg Value.int (by decide)) ?_
  refine x_in rfl rfl rfl ?_
  refine x_in rfl rfl rfl ?_
  refine x_hs1 (by decide) ?_
  refine x_in rfl rfl rfl ?_
  refine x_in rfl rfl rfl ?_
  refine x_in rfl rfl rfl ?_
  refine x_in rfl rfl rfl ?_
  refine x_in rfl rfl rfl ?_
  refine x_top (show _ = Value.int ((1 : Int32)) from congrArg Value.int (by decide)) ?_
  refine x_in rfl rfl rfl ?_
  refine x_top (show _ = Value.int ((5 : Int32)) from congrArg Value.int (by decide)) ?_
  refine x_in rfl rfl rfl ?_
  refine x_hs0 ?_
  refine x_iinc (z := (2 : Int32)) rfl rfl (by decide) ?_
  refine x_in rfl rfl rfl ?_
  refine x_in rfl rfl rfl ?_
  refine x_in rfl rfl rfl ?_
  refine x_in rfl rfl rfl ?_
  refine x_in rfl rfl rfl ?_
  refine x_in rfl rfl rfl ?_
  refine x_in rfl rfl rfl ?_
  refine x_in rfl rfl rfl ?_
  refine x_in rfl rfl rfl ?_
  refine x_in rfl rfl rfl ?_
  refine x_in rfl rfl rfl ?_
  refine x_top (show _ = Value.int ((8 : Int32)) from congrArg Value.int (by decide)) ?_
  refine x_in rfl rfl rfl ?_
  refine x_in rfl rfl rfl ?_
  refine x_top (show _ = Value.int ((16 : Int32)) from congrArg Value.int (by decide)) ?_
  refine x_in rfl rfl rfl ?_
  refine x_in rfl rfl rfl ?_
  refine x_gen (fun v6 => ?_)
  refine x_in rfl rfl rfl ?_
  refine x_top (show _ = Value.int ((255 : Int32)) from congrArg Value.int (by decide)) ?_
  refine x_in rfl rfl rfl ?_
  refine x_in rfl rfl rfl ?_
  refine x_hs1 (by decide) ?_
  refine x_in rfl rfl rfl ?_
  refine x_in rfl rfl rfl ?_
  refine x_in rfl rfl rfl ?_
  refine x_in rfl rfl rfl ?_
  refine x_in rfl rfl rfl ?_
  refine x_top (show _ = Value.int ((1 : Int32)) from congrArg Value.int (by decide)) ?_
  refine x_in rfl rfl rfl ?_
  refine x_top (show _ = Value.int ((6 : Int32)) from congrArg Value.int (by decide)) ?_
  refine x_in rfl rfl rfl ?_
  refine x_hs0 ?_
  refine x_iinc (z := (1 : Int32)) rfl rfl (by decide) ?_
  refine x_in rfl rfl rfl ?_
  refine x_in rfl rfl rfl ?_
  refine x_in rfl rfl rfl ?_
  refine x_in rfl rfl rfl ?_
  refine x_in rfl rfl rfl ?_
  refine x_in rfl rfl rfl ?_
  refine x_in rfl rfl rfl ?_
  refine x_in rfl rfl rfl ?_
  refine x_in rfl rfl rfl ?_
  refine x_in rfl rfl rfl ?_
  refine x_in rfl rfl rfl ?_
  refine x_top (show _ = Value.int ((8 : Int32)) from congrArg Value.int (by decide)) ?_
  refine x_in rfl rfl rfl ?_
  refine x_in rfl rfl rfl ?_
  refine x_top (show _ = Value.int ((8 : Int32)) from congrArg Value.int (by decide)) ?_
  refine x_in rfl rfl rfl ?_
  refine x_in rfl rfl rfl ?_
  refine x_gen (fun v7 => ?_)
  refine x_in rfl rfl rfl ?_
  refine x_top (show _ = Value.int ((255 : Int32)) from congrArg Value.int (by decide)) ?_
  refine x_in rfl rfl rfl ?_
  refine x_in rfl rfl rfl ?_
  refine x_hs1 (by decide) ?_
  refine x_in rfl rfl rfl ?_
  refine x_in rfl rfl rfl ?_
  refine x_in rfl rfl rfl ?_
  refine x_in rfl rfl rfl ?_
  refine x_in rfl rfl rfl ?_
  refine x_top (show _ = Value.int ((1 : Int32)) from congrArg Value.int (by decide)) ?_
  refine x_in rfl rfl rfl ?_
  refine x_top (show _ = Value.int ((7 : Int32)) from congrArg Value.int (by decide)) ?_
  refine x_in rfl rfl rfl ?_
  refine x_hs0 ?_
  refine x_iinc (z := (0 : Int32)) rfl rfl (by decide) ?_
  refine x_in rfl rfl rfl ?_
  refine x_in rfl rfl rfl ?_
  refine x_in rfl rfl rfl ?_
  refine x_in rfl rfl rfl ?_
  refine x_in rfl rfl rfl ?_
  refine x_in rfl rfl rfl ?_
  refine x_in rfl rfl rfl ?_
  refine x_in rfl rfl rfl ?_
  refine x_in rfl rfl rfl ?_
  refine x_in rfl rfl rfl ?_
  refine x_in rfl rfl rfl ?_
  refine x_top (show _ = Value.int ((8 : Int32)) from congrArg Value.int (by decide)) ?_
  refine x_in rfl rfl rfl ?_
  refine x_in rfl rfl rfl ?_
  refine x_top (show _ = Value.int ((0 : Int32)) from congrArg Value.int (by decide)) ?_
  refine x_in rfl rfl rfl ?_
  refine x_in rfl rfl rfl ?_
  refine x_gen (fun v8 => ?_)
  refine x_in rfl rfl rfl ?_
  refine x_top (show _ = Value.int ((255 : Int32)) from congrArg Value.int (by decide)) ?_
  refine x_in rfl rfl rfl ?_
  refine x_in rfl rfl rfl ?_
  refine x_hs1 (by decide) ?_
  refine x_in rfl rfl rfl ?_
  refine x_in rfl rfl rfl ?_
  refine x_in rfl rfl rfl ?_
  refine x_in rfl rfl rfl ?_
  refine x_in rfl rfl rfl ?_
  refine x_top (show _ = Value.int ((1 : Int32)) from congrArg Value.int (by decide)) ?_
  refine x_in rfl rfl rfl ?_
  refine x_top (show _ = Value.int ((8 : Int32)) from congrArg Value.int (by decide)) ?_
  refine x_in rfl rfl rfl ?_
  refine x_hs0 ?_
  refine x_iinc (z := (-1 : Int32)) rfl rfl (by decide) ?_
  refine x_in rfl rfl rfl ?_
  refine x_in rfl rfl rfl ?_
  refine x_in rfl rfl rfl ?_
  refine x_in rfl rfl rfl ?_
  refine x_in rfl rfl rfl ?_
  refine x_in rfl rfl rfl ?_
  refine x_ret rfl rfl ?_
  refine x_in rfl rfl rfl ?_
  refine x_in rfl rfl rfl ?_
  refine x_in rfl rfl rfl ?_
  refine x_in rfl rfl rfl ?_
  refine x_top (show _ = Value.int ((1 : Int32)) from congrArg Value.int (by decide)) ?_
  refine x_in rfl rfl rfl ?_
  refine x_top (show _ = Value.int ((1 : Int32)) from congrArg Value.int (by decide)) ?_
  refine x_in rfl rfl rfl ?_
  refine x_in rfl rfl rfl ?_
  refine x_in rfl rfl rfl ?_
  refine x_top (show _ = Value.int ((32 : Int32)) from congrArg Value.int (by decide)) ?_
  refine x_in rfl rfl rfl ?_
  refine x_in rfl rfl rfl ?_
  refine x_in rfl rfl rfl ?_
  refine x_in rfl rfl rfl ?_
  refine x_top (show _ = Value.int ((2 : Int32)) from congrArg Value.int (by decide)) ?_
  refine x_in rfl rfl rfl ?_
  refine x_top (show _ = Value.int ((2 : Int32)) from congrArg Value.int (by decide)) ?_
  refine x_in rfl rfl rfl ?_
  refine x_in rfl rfl rfl ?_
  refine x_in rfl rfl rfl ?_
  refine x_in rfl rfl rfl ?_
  refine x_in rfl rfl rfl ?_
  refine x_in rfl rfl rfl ?_
  refine x_in rfl rfl rfl ?_
  refine x_in rfl rfl rfl ?_
  refine x_top (show _ = Value.int ((3 : Int32)) from congrArg Value.int (by decide)) ?_
  refine x_in rfl rfl rfl ?_
  refine x_top (show _ = Value.int ((3 : Int32)) from congrArg Value.int (by decide)) ?_
  refine x_in rfl rfl rfl ?_
  refine x_cV rfl rfl rfl rfl ⟨rfl, (Nat.le_of_ble_eq_true rfl), (Nat.le_of_ble_eq_true rfl)⟩ (x_enter (Nat.le_of_ble_eq_true rfl) ?_)
  refine x_in rfl rfl rfl ?_
  refine x_in rfl rfl rfl ?_
  refine x_top (show _ = Value.int ((1 : Int32)) from congrArg Value.int (by decide)) ?_
  refine x_in rfl rfl rfl ?_
  refine x_top (show _ = Value.int ((8 : Int32)) from congrArg Value.int (by decide)) ?_
  refine x_cS rfl (by decide) rfl rfl ⟨(Nat.le_of_ble_eq_true rfl), (Nat.le_of_ble_eq_true rfl)⟩ (x_enter (Nat.le_of_ble_eq_true rfl) ?_)
  refine x_in rfl rfl rfl ?_
  refine x_in rfl rfl rfl ?_
  refine x_in rfl rfl rfl ?_
  refine x_in rfl rfl rfl ?_
  refine x_in rfl rfl rfl ?_
  refine x_in rfl rfl rfl ?_
  refine x_in rfl rfl rfl ?_
  refine x_top (show _ = Value.int ((1 : Int32)) from congrArg Value.int (by decide)) ?_
  refine x_in rfl rfl rfl ?_
  refine x_ret rfl rfl ?_
  refine x_in rfl rfl rfl ?_
  refine x_in rfl rfl rfl ?_
  refine x_in rfl rfl rfl ?_
  refine x_in rfl rfl rfl ?_
  refine x_top (show _ = Value.int ((6 : Int32)) from congrArg Value.int (by decide)) ?_
  refine x_in rfl rfl rfl ?_
  refine x_in rfl rfl rfl ?_
  refine x_in rfl rfl rfl ?_
  refine x_top (show _ = Value.int ((8 : Int32)) from congrArg Value.int (by decide)) ?_
  refine x_in rfl rfl rfl ?_
  refine x_top (show _ = Value.int ((160 : Int32)) from congrArg Value.int (by decide)) ?_
  refine x_in rfl rfl rfl ?_
  refine x_in rfl rfl rfl ?_
  refine x_in rfl rfl rfl ?_
  refine x_top (show _ = Value.int ((1 : Int32)) from congrArg Value.int (by decide)) ?_
  refine x_in rfl rfl rfl ?_
  refine x_top (show _ = Value.int ((7 : Int32)) from congrArg Value.int (by decide)) ?_
  refine x_in rfl rfl rfl ?_
  refine x_in rfl rfl rfl ?_
  refine x_in rfl rfl rfl ?_
  refine x_in rfl rfl rfl ?_
  refine x_in rfl rfl rfl ?_
  refine x_in rfl rfl rfl ?_
  refine x_top (show _ = Value.int ((10 : Int32)) from congrArg Value.int (by decide)) ?_
  refine x_in rfl rfl rfl ?_
  refine x_in rfl rfl rfl ?_
  refine x_in rfl rfl rfl ?_
  refine x_top (show _ = Value.int ((6 : Int32)) from congrArg Value.int (by decide)) ?_
  refine x_in rfl rfl rfl ?_
  refine x_in rfl rfl rfl ?_
  refine x_top (show _ = Value.int ((10 : Int32)) from congrArg Value.int (by decide)) ?_
  refine x_in rfl rfl rfl ?_
  refine x_in rfl rfl rfl ?_
  refine x_top (show _ = Value.int ((8 : Int32)) from congrArg Value.int (by decide)) ?_
  refine x_in rfl rfl rfl ?_
  refine x_in rfl rfl rfl ?_
  refine x_top (show _ = Value.int ((56 : Int32)) from congrArg Value.int (by decide)) ?_
  refine x_in rfl rfl rfl ?_
  refine x_in rfl rfl rfl ?_
  refine x_in rfl rfl rfl ?_
  refine x_in rfl rfl rfl ?_
  refine x_gen (fun v9 => ?_)
  refine x_in rfl rfl rfl ?_
  refine x_in rfl rfl rfl ?_
  refine x_in rfl rfl rfl ?_
  refine x_in rfl rfl rfl ?_
  refine x_top (show _ = Value.int ((6 : Int32)) from congrArg Value.int (by decide)) ?_
  refine x_in rfl rfl rfl ?_
  refine x_in rfl rfl rfl ?_
  refine x_in rfl rfl rfl ?_
  refine x_top (show _ = Value.int ((1 : Int32)) from congrArg Value.int (by decide)) ?_
  refine x_in rfl rfl rfl ?_
  refine x_top (show _ = Value.int ((1 : Int32)) from congrArg Value.int (by decide)) ?_
  refine x_in rfl rfl rfl ?_
  refine x_hs0 ?_
  refine x_iinc (z := (6 : Int32)) rfl rfl (by decide) ?_
  refine x_in rfl rfl rfl ?_
  refine x_in rfl rfl rfl ?_
  refine x_in rfl rfl rfl ?_
  refine x_in rfl rfl rfl ?_
  refine x_in rfl rfl rfl ?_
  refine x_in rfl rfl rfl ?_
  refine x_top (show _ = Value.int ((10 : Int32)) from congrArg Value.int (by decide)) ?_
  refine x_in rfl rfl rfl ?_
  refine x_in rfl rfl rfl ?_
  refine x_in rfl rfl rfl ?_
  refine x_top (show _ = Value.int ((6 : Int32)) from congrArg Value.int (by decide)) ?_
  refine x_in rfl rfl rfl ?_
  refine x_in rfl rfl rfl ?_
  refine x_top (show _ = Value.int ((11 : Int32)) from congrArg Value.int (by decide)) ?_
  refine x_in rfl rfl rfl ?_
  refine x_in rfl rfl rfl ?_
  refine x_top (show _ = Value.int ((8 : Int32)) from congrArg Value.int (by decide)) ?_
  refine x_in rfl rfl rfl ?_
  refine x_in rfl rfl rfl ?_
  refine x_top (show _ = Value.int ((48 : Int32)) from congrArg Value.int (by decide)) ?_
  refine x_in rfl rfl rfl ?_
  refine x_in rfl rfl rfl ?_
  refine x_in rfl rfl rfl ?_
  refine x_in rfl rfl rfl ?_
  refine x_gen (fun v10 => ?_)
  refine x_in rfl rfl rfl ?_
  refine x_hs0 ?_
  refine x_in rfl rfl rfl ?_
  refine x_in rfl rfl rfl ?_
  refine x_in rfl rfl rfl ?_
  refine x_top (show _ = Value.int ((6 : Int32)) from congrArg Value.int (by decide)) ?_
  refine x_in rfl rfl rfl ?_
  refine x_in rfl rfl rfl ?_
  refine x_in rfl rfl rfl ?_
  refine x_top (show _ = Value.int ((1 : Int32)) from congrArg Value.int (by decide)) ?_
  refine x_in rfl rfl rfl ?_
  refine x_top (show _ = Value.int ((2 : Int32)) from congrArg Value.int (by decide)) ?_
  refine x_in rfl rfl rfl ?_
  refine x_hs0 ?_
  refine x_iinc (z := (5 : Int32)) rfl rfl (by decide) ?_
  refine x_in rfl rfl rfl ?_
  refine x_in rfl rfl rfl ?_
  refine x_in rfl rfl rfl ?_
  refine x_in rfl rfl rfl ?_
  refine x_in rfl rfl rfl ?_
  refine x_in rfl rfl rfl ?_
  refine x_top (show _ = Value.int ((10 : Int32)) from congrArg Value.int (by decide)) ?_
  refine x_in rfl rfl rfl ?_
  refine x_in rfl rfl rfl ?_
  refine x_in rfl rfl rfl ?_
  refine x_top (show _ = Value.int ((6 : Int32)) from congrArg Value.int (by decide)) ?_
  refine x_in rfl rfl rfl ?_
  refine x_in rfl rfl rfl ?_
  refine x_top (show _ = Value.int ((12 : Int32)) from congrArg Value.int (by decide)) ?_
  refine x_in rfl rfl rfl ?_
  refine x_in rfl rfl rfl ?_
  refine x_top (show _ = Value.int ((8 : Int32)) from congrArg Value.int (by decide)) ?_
  refine x_in rfl rfl rfl ?_
  refine x_in rfl rfl rfl ?_
  refine x_top (show _ = Value.int ((40 : Int32)) from congrArg Value.int (by decide)) ?_
  refine x_in rfl rfl rfl ?_
  refine x_in rfl rfl rfl ?_
  refine x_in rfl rfl rfl ?_
  refine x_in rfl rfl rfl ?_
  refine x_gen (fun v11 => ?_)
  refine x_in rfl rfl rfl ?_
  refine x_hs0 ?_
  refine x_in rfl rfl rfl ?_
  refine x_in rfl rfl rfl ?_
  refine x_in rfl rfl rfl ?_
  refine x_top (show _ = Value.int ((6 : Int32)) from congrArg Value.int (by decide)) ?_
  refine x_in rfl rfl rfl ?_
  refine x_in rfl rfl rfl ?_
  refine x_in rfl rfl rfl ?_
  refine x_top (show _ = Value.int ((1 : Int32)) from congrArg Value.int (by decide)) ?_
  refine x_in rfl rfl rfl ?_
  refine x_top (show _ = Value.int ((3 : Int32)) from congrArg Value.int (by decide)) ?_
  refine x_in rfl rfl rfl ?_
  refine x_hs0 ?_
  refine x_iinc (z := (4 : Int32)) rfl rfl (by decide) ?_
  refine x_in rfl rfl rfl ?_
  refine x_in rfl rfl rfl ?_
  refine x_in rfl rfl rfl ?_
  refine x_in rfl rfl rfl ?_
  refine x_in rfl rfl rfl ?_
  refine x_in rfl rfl rfl ?_
  refine x_top (show _ = Value.int ((10 : Int32)) from congrArg Value.int (by decide)) ?_
  refine x_in rfl rfl rfl ?_
  refine x_in rfl rfl rfl ?_
  refine x_in rfl rfl rfl ?_
  refine x_top (show _ = Value.int ((6 : Int32)) from congrArg Value.int (by decide)) ?_
  refine x_in rfl rfl rfl ?_
  refine x_in rfl rfl rfl ?_
  refine x_top (show _ = Value.int ((13 : Int32)) from congrArg Value.int (by decide)) ?_
  refine x_in rfl rfl rfl ?_
  refine x_in rfl rfl rfl ?_
  refine x_top (show _ = Value.int ((8 : Int32)) from congrArg Value.int (by decide)) ?_
  refine x_in rfl rfl rfl ?_
  refine x_in rfl rfl rfl ?_
  refine x_top (show _ = Value.int ((32 : Int32)) from congrArg Value.int (by decide)) ?_
  refine x_in rfl rfl rfl ?_
  refine x_in rfl rfl rfl ?_
  refine x_in rfl rfl rfl ?_
  refine x_in rfl rfl rfl ?_
  refine x_gen (fun v12 => ?_)
  refine x_in rfl rfl rfl ?_
  refine x_hs0 ?_
  refine x_in rfl rfl rfl ?_
  refine x_in rfl rfl rfl ?_
  refine x_in rfl rfl rfl ?_
  refine x_top (show _ = Value.int ((6 : Int32)) from congrArg Value.int (by decide)) ?_
  refine x_in rfl rfl rfl ?_
  refine x_in rfl rfl rfl ?_
  refine x_in rfl rfl rfl ?_
  refine x_top (show _ = Value.int ((1 : Int32)) from congrArg Value.int (by decide)) ?_
  refine x_in rfl rfl rfl ?_
  refine x_top (show _ = Value.int ((4 : Int32)) from congrArg Value.int (by decide)) ?_
  refine x_in rfl rfl rfl ?_
  refine x_hs0 ?_
  refine x_iinc (z := (3 : Int32)) rfl rfl (by decide) ?_
  refine x_in rfl rfl rfl ?_
  refine x_in rfl rfl rfl ?_
  refine x_in rfl rfl rfl ?_
  refine x_in rfl rfl rfl ?_
  refine x_in rfl rfl rfl ?_
  refine x_in rfl rfl rfl ?_
  refine x_top (show _ = Value.int ((10 : Int32)) from congrArg Value.int (by decide)) ?_
  refine x_in rfl rfl rfl ?_
  refine x_in rfl rfl rfl ?_
  refine x_in rfl rfl rfl ?_
  refine x_top (show _ = Value.int ((6 : Int32)) from congrArg Value.int (by decide)) ?_
  refine x_in rfl rfl rfl ?_
  refine x_in rfl rfl rfl ?_
  refine x_top (show _ = Value.int ((14 : Int32)) from congrArg Value.int (by decide)) ?_
  refine x_in rfl rfl rfl ?_
  refine x_in rfl rfl rfl ?_
  refine x_top (show _ = Value.int ((8 : Int32)) from congrArg Value.int (by decide)) ?_
  refine x_in rfl rfl rfl ?_
  refine x_in rfl rfl rfl ?_
  refine x_top (show _ = Value.int ((24 : Int32)) from congrArg Value.int (by decide)) ?_
  refine x_in rfl rfl rfl ?_
  refine x_in rfl rfl rfl ?_
  refine x_in rfl rfl rfl ?_
  refine x_in rfl rfl rfl ?_
  refine x_gen (fun v13 => ?_)
  refine x_in rfl rfl rfl ?_
  refine x_hs0 ?_
  refine x_in rfl rfl rfl ?_
  refine x_in rfl rfl rfl ?_
  refine x_in rfl rfl rfl ?_
  refine x_top (show _ = Value.int ((6 : Int32)) from congrArg Value.int (by decide)) ?_
  refine x_in rfl rfl rfl ?_
  refine x_in rfl rfl rfl ?_
  refine x_in rfl rfl rfl ?_
  refine x_top (show _ = Value.int ((1 : Int32)) from congrArg Value.int (by decide)) ?_
  refine x_in rfl rfl rfl ?_
  refine x_top (show _ = Value.int ((5 : Int32)) from congrArg Value.int (by decide)) ?_
  refine x_in rfl rfl rfl ?_
  refine x_hs0 ?_
  refine x_iinc (z := (2 : Int32)) rfl rfl (by decide) ?_
  refine x_in rfl rfl rfl ?_
  refine x_in rfl rfl rfl ?_
  refine x_in rfl rfl rfl ?_
  refine x_in rfl rfl rfl ?_
  refine x_in rfl rfl rfl ?_
  refine x_in rfl rfl rfl ?_
  refine x_top (show _ = Value.int ((10 : Int32)) from congrArg Value.int (by decide)) ?_
  refine x_in rfl rfl rfl ?_
  refine x_in rfl rfl rfl ?_
  refine x_in rfl rfl rfl ?_
  refine x_top (show _ = Value.int ((6 : Int32)) from congrArg Value.int (by decide)) ?_
  refine x_in rfl rfl rfl ?_
  refine x_in rfl rfl rfl ?_
  refine x_top (show _ = Value.int ((15 : Int32)) from congrArg Value.int (by decide)) ?_
  refine x_in rfl rfl rfl ?_
  refine x_in rfl rfl rfl ?_
  refine x_top (show _ = Value.int ((8 : Int32)) from congrArg Value.int (by decide)) ?_
  refine x_in rfl rfl rfl ?_
  refine x_in rfl rfl rfl ?_
  refine x_top (show _ = Value.int ((16 : Int32)) from congrArg Value.int (by decide)) ?_
  refine x_in rfl rfl rfl ?_
  refine x_in rfl rfl rfl ?_
  refine x_in rfl rfl rfl ?_
  refine x_in rfl rfl rfl ?_
  refine x_gen (fun v14 => ?_)
  refine x_in rfl rfl rfl ?_
  refine x_hs0 ?_
  refine x_in rfl rfl rfl ?_
  refine x_in rfl rfl rfl ?_
  refine x_in rfl rfl rfl ?_
  refine x_top (show _ = Value.int ((6 : Int32)) from congrArg Value.int (by decide)) ?_
  refine x_in rfl rfl rfl ?_
  refine x_in rfl rfl rfl ?_
  refine x_in rfl rfl rfl ?_
  refine x_top (show _ = Value.int ((1 : Int32)) from congrArg Value.int (by decide)) ?_
  refine x_in rfl rfl rfl ?_
  refine x_top (show _ = Value.int ((6 : Int32)) from congrArg Value.int (by decide)) ?_
  refine x_in rfl rfl rfl ?_
  refine x_hs0 ?_
  refine x_iinc (z := (1 : Int32)) rfl rfl (by decide) ?_
  refine x_in rfl rfl rfl ?_
  refine x_in rfl rfl rfl ?_
  refine x_in rfl rfl rfl ?_
  refine x_in rfl rfl rfl ?_
  refine x_in rfl rfl rfl ?_
  refine x_in rfl rfl rfl ?_
  refine x_top (show _ = Value.int ((10 : Int32)) from congrArg Value.int (by decide)) ?_
  refine x_in rfl rfl rfl ?_
  refine x_in rfl rfl rfl ?_
  refine x_in rfl rfl rfl ?_
  refine x_top (show _ = Value.int ((6 : Int32)) from congrArg Value.int (by decide)) ?_
  refine x_in rfl rfl rfl ?_
  refine x_in rfl rfl rfl ?_
  refine x_top (show _ = Value.int ((16 : Int32)) from congrArg Value.int (by decide)) ?_
  refine x_in rfl rfl rfl ?_
  refine x_in rfl rfl rfl ?_
  refine x_top (show _ = Value.int ((8 : Int32)) from congrArg Value.int (by decide)) ?_
  refine x_in rfl rfl rfl ?_
  refine x_in rfl rfl rfl ?_
  refine x_top (show _ = Value.int ((8 : Int32)) from congrArg Value.int (by decide)) ?_
  refine x_in rfl rfl rfl ?_
  refine x_in rfl rfl rfl ?_
  refine x_in rfl rfl rfl ?_
  refine x_in rfl rfl rfl ?_
  refine x_gen (fun v15 => ?_)
  refine x_in rfl rfl rfl ?_
  refine x_hs0 ?_
  refine x_in rfl rfl rfl ?_
  refine x_in rfl rfl rfl ?_
  refine x_in rfl rfl rfl ?_
  refine x_top (show _ = Value.int ((6 : Int32)) from congrArg Value.int (by decide)) ?_
  refine x_in rfl rfl rfl ?_
  refine x_in rfl rfl rfl ?_
  refine x_in rfl rfl rfl ?_
  refine x_top (show _ = Value.int ((1 : Int32)) from congrArg Value.int (by decide)) ?_
  refine x_in rfl rfl rfl ?_
  refine x_top (show _ = Value.int ((7 : Int32)) from congrArg Value.int (by decide)) ?_
  refine x_in rfl rfl rfl ?_
  refine x_hs0 ?_
  refine x_iinc (z := (0 : Int32)) rfl rfl (by decide) ?_
  refine x_in rfl rfl rfl ?_
  refine x_in rfl rfl rfl ?_
  refine x_in rfl rfl rfl ?_
  refine x_in rfl rfl rfl ?_
  refine x_in rfl rfl rfl ?_
  refine x_in rfl rfl rfl ?_
  refine x_top (show _ = Value.int ((10 : Int32)) from congrArg Value.int (by decide)) ?_
  refine x_in rfl rfl rfl ?_
  refine x_in rfl rfl rfl ?_
  refine x_in rfl rfl rfl ?_
  refine x_top (show _ = Value.int ((6 : Int32)) from congrArg Value.int (by decide)) ?_
  refine x_in rfl rfl rfl ?_
  refine x_in rfl rfl rfl ?_
  refine x_top (show _ = Value.int ((17 : Int32)) from congrArg Value.int (by decide)) ?_
  refine x_in rfl rfl rfl ?_
  refine x_in rfl rfl rfl ?_
  refine x_top (show _ = Value.int ((8 : Int32)) from congrArg Value.int (by decide)) ?_
  refine x_in rfl rfl rfl ?_
  refine x_in rfl rfl rfl ?_
  refine x_top (show _ = Value.int ((0 : Int32)) from congrArg Value.int (by decide)) ?_
  refine x_in rfl rfl rfl ?_
  refine x_in rfl rfl rfl ?_
  refine x_in rfl rfl rfl ?_
  refine x_in rfl rfl rfl ?_
  refine x_gen (fun v16 => ?_)
  refine x_in rfl rfl rfl ?_
  refine x_hs0 ?_
  refine x_in rfl rfl rfl ?_
  refine x_in rfl rfl rfl ?_
  refine x_in rfl rfl rfl ?_
  refine x_top (show _ = Value.int ((6 : Int32)) from congrArg Value.int (by decide)) ?_
  refine x_in rfl rfl rfl ?_
  refine x_in rfl rfl rfl ?_
  refine x_in rfl rfl rfl ?_
  refine x_top (show _ = Value.int ((1 : Int32)) from congrArg Value.int (by decide)) ?_
  refine x_in rfl rfl rfl ?_
  refine x_top (show _ = Value.int ((8 : Int32)) from congrArg Value.int (by decide)) ?_
  refine x_in rfl rfl rfl ?_
  refine x_hs0 ?_
  refine x_iinc (z := (-1 : Int32)) rfl rfl (by decide) ?_
  refine x_in rfl rfl rfl ?_
  refine x_in rfl rfl rfl ?_
  refine x_in rfl rfl rfl ?_
  refine x_in rfl rfl rfl ?_
  refine x_in rfl rfl rfl ?_
  refine x_in rfl rfl rfl ?_
  refine x_top (show _ = Value.int ((6 : Int32)) from congrArg Value.int (by decide)) ?_
  refine x_in rfl rfl rfl ?_
  refine x_ret rfl rfl ?_
  refine x_in rfl rfl rfl ?_
  refine x_iinc (z := (6 : Int32)) rfl rfl (by decide) ?_
  refine x_in rfl rfl rfl ?_
  refine x_in rfl rfl rfl ?_
  refine x_in rfl rfl rfl ?_
  refine x_in rfl rfl rfl ?_
  refine x_top (show _ = Value.int ((6 : Int32)) from rfl) ?_
  refine x_in rfl rfl rfl ?_
  refine x_top (show _ = Value.int ((6 : Int32)) from congrArg Value.int (by decide)) ?_
  refine x_in rfl rfl rfl ?_
  refine x_top (show _ = Value.int ((0 : Int32)) from congrArg Value.int (by decide)) ?_
  refine x_in rfl rfl rfl ?_
  refine x_in rfl rfl rfl ?_
  refine x_top (show _ = Value.int ((1 : Int32)) from congrArg Value.int (by decide)) ?_
  refine x_ret rfl rfl ?_
  exact ⟨rfl, by decide, by decide⟩
set_option maxRecDepth 100000 in
set_option maxHeartbeats 4000000 in
theorem c_0_lo (n : Nat) (c a1 a2 a3 a4 a5 : Int32) (hb : a3.toInt ≤ 0) : x_E (m_X [c, a1, a2, a3, a4, a5]) 60 181 193 11164 (n + 300) 156 [(3, .int 0), (2, .ref 170), (1, .ref 0), (0, .ref 1000000)] [] m_h0 lK := by
  refine x_in rfl rfl rfl ?_
  refine x_in rfl rfl rfl ?_
  refine x_in rfl rfl rfl ?_
  refine x_in rfl rfl rfl ?_
  refine x_top (show _ = Value.int ((1 : Int32)) from congrArg Value.int (by decide)) ?_
  refine x_in rfl rfl rfl ?_
  refine x_top (show _ = Value.int ((1 : Int32)) from congrArg Value.int (by decide)) ?_
  refine x_in rfl rfl rfl ?_
  refine x_in rfl rfl rfl ?_
  refine x_in rfl rfl rfl ?_
  refine x_top (show _ = Value.int ((32 : Int32)) from congrArg Value.int (by decide)) ?_
  refine x_in rfl rfl rfl ?_
  refine x_in rfl rfl rfl ?_
  refine x_in rfl rfl rfl ?_
  refine x_in rfl rfl rfl ?_
  refine x_top (show _ = Value.int ((2 : Int32)) from congrArg Value.int (by decide)) ?_
  refine x_in rfl rfl rfl ?_
  refine x_top (show _ = Value.int ((2 : Int32)) from congrArg Value.int (by decide)) ?_
  refine x_in rfl rfl rfl ?_
  refine x_in rfl rfl rfl ?_
  refine x_in rfl rfl rfl ?_
  refine x_in rfl rfl rfl ?_
  refine x_in rfl rfl rfl ?_
  refine x_in rfl rfl rfl ?_
  refine x_in rfl rfl rfl ?_
  refine x_in rfl rfl rfl ?_
  refine x_top (show _ = Value.int ((3 : Int32)) from congrArg Value.int (by decide)) ?_
  refine x_in rfl rfl rfl ?_
  refine x_top (show _ = Value.int ((3 : Int32)) from congrArg Value.int (by decide)) ?_
  refine x_in rfl rfl rfl ?_
  refine x_cV rfl rfl rfl rfl ⟨rfl, (Nat.le_of_ble_eq_true rfl), (Nat.le_of_ble_eq_true rfl)⟩ (x_enter (Nat.le_of_ble_eq_true rfl) ?_)
  refine x_in rfl rfl rfl ?_
  refine x_in rfl rfl rfl ?_
  refine x_top (show _ = Value.int ((1 : Int32)) from congrArg Value.int (by decide)) ?_
  refine x_bT rfl rfl ((z_1 (1) (by decide)).mpr (by omega)) ?_
  refine x_in rfl rfl rfl ?_
  refine x_top (show _ = Value.int ((-2 : Int32)) from congrArg Value.int (by decide)) ?_
  refine x_ret rfl rfl ?_
  refine x_in rfl rfl rfl ?_
  refine x_in rfl rfl rfl ?_
  refine x_in rfl rfl rfl ?_
  refine x_in rfl rfl rfl ?_
  refine x_top (show _ = Value.int ((1 : Int32)) from congrArg Value.int (by decide)) ?_
  refine x_in rfl rfl rfl ?_
  refine x_top (show _ = Value.int ((1 : Int32)) from congrArg Value.int (by decide)) ?_
  refine x_in rfl rfl rfl ?_
  refine x_in rfl rfl rfl ?_
  refine x_in rfl rfl rfl ?_
  refine x_top (show _ = Value.int ((32 : Int32)) from congrArg Value.int (by decide)) ?_
  refine x_in rfl rfl rfl ?_
  refine x_in rfl rfl rfl ?_
  refine x_in rfl rfl rfl ?_
  refine x_in rfl rfl rfl ?_
  refine x_top (show _ = Value.int ((2 : Int32)) from congrArg Value.int (by decide)) ?_
  refine x_in rfl rfl rfl ?_
  refine x_top (show _ = Value.int ((2 : Int32)) from congrArg Value.int (by decide)) ?_
  refine x_in rfl rfl rfl ?_
  refine x_in rfl rfl rfl ?_
  refine x_in rfl rfl rfl ?_
  refine x_in rfl rfl rfl ?_
  refine x_in rfl rfl rfl ?_
  refine x_in rfl rfl rfl ?_
  refine x_in rfl rfl rfl ?_
  refine x_in rfl rfl rfl ?_
  refine x_top (show _ = Value.int ((3 : Int32)) from congrArg Value.int (by decide)) ?_
  refine x_in rfl rfl rfl ?_
  refine x_top (show _ = Value.int ((3 : Int32)) from congrArg Value.int (by decide)) ?_
  refine x_in rfl rfl rfl ?_
  refine x_cV rfl rfl rfl rfl ⟨rfl, (Nat.le_of_ble_eq_true rfl), (Nat.le_of_ble_eq_true rfl)⟩ (x_enter (Nat.le_of_ble_eq_true rfl) ?_)
  refine x_in rfl rfl rfl ?_
  refine x_in rfl rfl rfl ?_
  refine x_top (show _ = Value.int ((1 : Int32)) from congrArg Value.int (by decide)) ?_
  refine x_in rfl rfl rfl ?_
  refine x_top (show _ = Value.int ((8 : Int32)) from congrArg Value.int (by decide)) ?_
  refine x_cS rfl (by decide) rfl rfl ⟨(Nat.le_of_ble_eq_true rfl), (Nat.le_of_ble_eq_true rfl)⟩ (x_enter (Nat.le_of_ble_eq_true rfl) ?_)
  refine x_in rfl rfl rfl ?_
  refine x_in rfl rfl rfl ?_
  refine x_bT rfl rfl ((z_1 (1) (by decide)).mpr (by omega)) ?_
  refine x_in rfl rfl rfl ?_
  refine x_top (show _ = Value.int ((0 : Int32)) from congrArg Value.int (by decide)) ?_
  refine x_ret rfl rfl ?_
  refine x_in rfl rfl rfl ?_
  refine x_in rfl rfl rfl ?_
  refine x_top (show _ = Value.int ((-2 : Int32)) from congrArg Value.int (by decide)) ?_
  refine x_ret rfl rfl ?_
  refine x_in rfl rfl rfl ?_
  refine x_iinc (z := (6 : Int32)) rfl rfl (by decide) ?_
  refine x_in rfl rfl rfl ?_
  refine x_in rfl rfl rfl ?_
  refine x_in rfl rfl rfl ?_
  refine x_in rfl rfl rfl ?_
  refine x_top (show _ = Value.int ((6 : Int32)) from rfl) ?_
  refine x_in rfl rfl rfl ?_
  refine x_top (show _ = Value.int ((6 : Int32)) from congrArg Value.int (by decide)) ?_
  refine x_in rfl rfl rfl ?_
  refine x_top (show _ = Value.int ((0 : Int32)) from congrArg Value.int (by decide)) ?_
  refine x_in rfl rfl rfl ?_
  refine x_in rfl rfl rfl ?_
  refine x_top (show _ = Value.int ((1 : Int32)) from congrArg Value.int (by decide)) ?_
  refine x_ret rfl rfl ?_
  exact ⟨rfl, by decide, by decide⟩
set_option maxRecDepth 100000 in
set_option maxHeartbeats 4000000 in
theorem c_0_hi (n : Nat) (c a1 a2 a3 a4 a5 : Int32) (hb : 9 ≤ a3.toInt) : x_E (m_X [c, a1, a2, a3, a4, a5]) 60 181 193 11164 (n + 300) 156 [(3, .int 0), (2, .ref 170), (1, .ref 0), (0, .ref 1000000)] [] m_h0 lK := by
  refine x_in rfl rfl rfl ?_
  refine x_in rfl rfl rfl ?_
  refine x_in rfl rfl rfl ?_
  refine x_in rfl rfl rfl ?_
  refine x_top (show _ = Value.int ((1 : Int32)) from congrArg Value.int (by decide)) ?_
  refine x_in rfl rfl rfl ?_
  refine x_top (show _ = Value.int ((1 : Int32)) from congrArg Value.int (by decide)) ?_
  refine x_in rfl rfl rfl ?_
  refine x_in rfl rfl rfl ?_
  refine x_in rfl rfl rfl ?_
  refine x_top (show _ = Value.int ((32 : Int32)) from congrArg Value.int (by decide)) ?_
  refine x_in rfl rfl rfl ?_
  refine x_in rfl rfl rfl ?_
  refine x_in rfl rfl rfl ?_
  refine x_in rfl rfl rfl ?_
  refine x_top (show _ = Value.int ((2 : Int32)) from congrArg Value.int (by decide)) ?_
  refine x_in rfl rfl rfl ?_
  refine x_top (show _ = Value.int ((2 : Int32)) from congrArg Value.int (by decide)) ?_
  refine x_in rfl rfl rfl ?_
  refine x_in rfl rfl rfl ?_
  refine x_in rfl rfl rfl ?_
  refine x_in rfl rfl rfl ?_
  refine x_in rfl rfl rfl ?_
  refine x_in rfl rfl rfl ?_
  refine x_in rfl rfl rfl ?_
  refine x_in rfl rfl rfl ?_
  refine x_top (show _ = Value.int ((3 : Int32)) from congrArg Value.int (by decide)) ?_
  refine x_in rfl rfl rfl ?_
  refine x_top (show _ = Value.int ((3 : Int32)) from congrArg Value.int (by decide)) ?_
  refine x_in rfl rfl rfl ?_
  refine x_cV rfl rfl rfl rfl ⟨rfl, (Nat.le_of_ble_eq_true rfl), (Nat.le_of_ble_eq_true rfl)⟩ (x_enter (Nat.le_of_ble_eq_true rfl) ?_)
  refine x_in rfl rfl rfl ?_
  refine x_in rfl rfl rfl ?_
  refine x_top (show _ = Value.int ((1 : Int32)) from congrArg Value.int (by decide)) ?_
  refine x_bF rfl rfl (mt (z_1 (1) (by decide)).mp (by omega)) ?_
  refine x_in rfl rfl rfl ?_
  refine x_in rfl rfl rfl ?_
  refine x_top (show _ = Value.int ((8 : Int32)) from congrArg Value.int (by decide)) ?_
  refine x_bF rfl rfl (mt (z_3 (8) (by decide)).mp (by omega)) ?_
  refine x_in rfl rfl rfl ?_
  refine x_top (show _ = Value.int ((-2 : Int32)) from congrArg Value.int (by decide)) ?_
  refine x_ret rfl rfl ?_
  refine x_in rfl rfl rfl ?_
  refine x_in rfl rfl rfl ?_
  refine x_in rfl rfl rfl ?_
  refine x_in rfl rfl rfl ?_
  refine x_top (show _ = Value.int ((1 : Int32)) from congrArg Value.int (by decide)) ?_
  refine x_in rfl rfl rfl ?_
  refine x_top (show _ = Value.int ((1 : Int32)) from congrArg Value.int (by decide)) ?_
  refine x_in rfl rfl rfl ?_
  refine x_in rfl rfl rfl ?_
  refine x_in rfl rfl rfl ?_
  refine x_top (show _ = Value.int ((32 : Int32)) from congrArg Value.int (by decide)) ?_
  refine x_in rfl rfl rfl ?_
  refine x_in rfl rfl rfl ?_
  refine x_in rfl rfl rfl ?_
  refine x_in rfl rfl rfl ?_
  refine x_top (show _ = Value.int ((2 : Int32)) from congrArg Value.int (by decide)) ?_
  refine x_in rfl rfl rfl ?_
  refine x_top (show _ = Value.int ((2 : Int32)) from congrArg Value.int (by decide)) ?_
  refine x_in rfl rfl rfl ?_
  refine x_in rfl rfl rfl ?_
  refine x_in rfl rfl rfl ?_
  refine x_in rfl rfl rfl ?_
  refine x_in rfl rfl rfl ?_
  refine x_in rfl rfl rfl ?_
  refine x_in rfl rfl rfl ?_
  refine x_in rfl rfl rfl ?_
  refine x_top (show _ = Value.int ((3 : Int32)) from congrArg Value.int (by decide)) ?_
  refine x_in rfl rfl rfl ?_
  refine x_top (show _ = Value.int ((3 : Int32)) from congrArg Value.int (by decide)) ?_
  refine x_in rfl rfl rfl ?_
  refine x_cV rfl rfl rfl rfl ⟨rfl, (Nat.le_of_ble_eq_true rfl), (Nat.le_of_ble_eq_true rfl)⟩ (x_enter (Nat.le_of_ble_eq_true rfl) ?_)
  refine x_in rfl rfl rfl ?_
  refine x_in rfl rfl rfl ?_
  refine x_top (show _ = Value.int ((1 : Int32)) from congrArg Value.int (by decide)) ?_
  refine x_in rfl rfl rfl ?_
  refine x_top (show _ = Value.int ((8 : Int32)) from congrArg Value.int (by decide)) ?_
  refine x_cS rfl (by decide) rfl rfl ⟨(Nat.le_of_ble_eq_true rfl), (Nat.le_of_ble_eq_true rfl)⟩ (x_enter (Nat.le_of_ble_eq_true rfl) ?_)
  refine x_in rfl rfl rfl ?_
  refine x_in rfl rfl rfl ?_
  refine x_bF rfl rfl (mt (z_1 (1) (by decide)).mp (by omega)) ?_
  refine x_in rfl rfl rfl ?_
  refine x_in rfl rfl rfl ?_
  refine x_bT rfl rfl ((z_2 (8) (by decide)).mpr (by omega)) ?_
  refine x_in rfl rfl rfl ?_
  refine x_top (show _ = Value.int ((0 : Int32)) from congrArg Value.int (by decide)) ?_
  refine x_ret rfl rfl ?_
  refine x_in rfl rfl rfl ?_
  refine x_in rfl rfl rfl ?_
  refine x_top (show _ = Value.int ((-2 : Int32)) from congrArg Value.int (by decide)) ?_
  refine x_ret rfl rfl ?_
  refine x_in rfl rfl rfl ?_
  refine x_iinc (z := (6 : Int32)) rfl rfl (by decide) ?_
  refine x_in rfl rfl rfl ?_
  refine x_in rfl rfl rfl ?_
  refine x_in rfl rfl rfl ?_
  refine x_in rfl rfl rfl ?_
  refine x_top (show _ = Value.int ((6 : Int32)) from rfl) ?_
  refine x_in rfl rfl rfl ?_
  refine x_top (show _ = Value.int ((6 : Int32)) from congrArg Value.int (by decide)) ?_
  refine x_in rfl rfl rfl ?_
  refine x_top (show _ = Value.int ((0 : Int32)) from congrArg Value.int (by decide)) ?_
  refine x_in rfl rfl rfl ?_
  refine x_in rfl rfl rfl ?_
  refine x_top (show _ = Value.int ((1 : Int32)) from congrArg Value.int (by decide)) ?_
  refine x_ret rfl rfl ?_
  exact ⟨rfl, by decide, by decide⟩
theorem c_0 (n : Nat) (c a1 a2 a3 a4 a5 : Int32) : x_E (m_X [c, a1, a2, a3, a4, a5]) 60 181 193 11164 (n + 300) 156 [(3, .int 0), (2, .ref 170), (1, .ref 0), (0, .ref 1000000)] [] m_h0 lK := by
  by_cases h1 : a3.toInt ≤ 0
  · exact c_0_lo n c a1 a2 a3 a4 a5 h1
  by_cases h2 : 9 ≤ a3.toInt
  · exact c_0_hi n c a1 a2 a3 a4 a5 h2
  have h3 : a3.toInt = 1 ∨ a3.toInt = 2 ∨ a3.toInt = 3 ∨ a3.toInt = 4 ∨ a3.toInt = 5 ∨ a3.toInt = 6 ∨ a3.toInt = 7 ∨ a3.toInt = 8 := by omega
  rcases h3 with h3 | h3 | h3 | h3 | h3 | h3 | h3 | h3
  · obtain rfl : a3 = 1 := (z_5 (1) (by decide)).mpr h3
    exact c_0_1 n c a1 a2 a4 a5
  · obtain rfl : a3 = 2 := (z_5 (2) (by decide)).mpr h3
    exact c_0_2 n c a1 a2 a4 a5
  · obtain rfl : a3 = 3 := (z_5 (3) (by decide)).mpr h3
    exact c_0_3 n c a1 a2 a4 a5
  · obtain rfl : a3 = 4 := (z_5 (4) (by decide)).mpr h3
    exact c_0_4 n c a1 a2 a4 a5
  · obtain rfl : a3 = 5 := (z_5 (5) (by decide)).mpr h3
    exact c_0_5 n c a1 a2 a4 a5
  · obtain rfl : a3 = 6 := (z_5 (6) (by decide)).mpr h3
    exact c_0_6 n c a1 a2 a4 a5
  · obtain rfl : a3 = 7 := (z_5 (7) (by decide)).mpr h3
    exact c_0_7 n c a1 a2 a4 a5
  · obtain rfl : a3 = 8 := (z_5 (8) (by decide)).mpr h3
    exact c_0_8 n c a1 a2 a4 a5
end
section
/-! how many bits, where it does not matter, and of none -/
set_option maxRecDepth 100000 in
set_option maxHeartbeats 40000000 in
theorem c_bc {X : Nat → List Int32} {d u w : Nat} {x : Int32} {h : m_H} {K : Nat → Nat → m_R → Prop} (k : ∀ v : Int32, K u w (some (.int v), h)) : x_R X (d + 1) 179 u w [.int x] h K := by
  refine x_enter (Nat.le_of_ble_eq_true rfl) ?_
  refine x_in rfl rfl rfl ?_
  refine x_in rfl rfl rfl ?_
  refine x_in rfl rfl rfl ?_
  refine x_top (show _ = Value.int ((1 : Int32)) from congrArg Value.int (by decide)) ?_
  refine x_in rfl rfl rfl ?_
  refine x_in rfl rfl rfl ?_
  refine x_top (show _ = Value.int ((1431655765 : Int32)) from congrArg Value.int (by decide)) ?_
  refine x_in rfl rfl rfl ?_
  refine x_in rfl rfl rfl ?_
  refine x_in rfl rfl rfl ?_
  refine x_in rfl rfl rfl ?_
  refine x_in rfl rfl rfl ?_
  refine x_top (show _ = Value.int ((858993459 : Int32)) from congrArg Value.int (by decide)) ?_
  refine x_in rfl rfl rfl ?_
  refine x_in rfl rfl rfl ?_
  refine x_in rfl rfl rfl ?_
  refine x_top (show _ = Value.int ((2 : Int32)) from congrArg Value.int (by decide)) ?_
  refine x_in rfl rfl rfl ?_
  refine x_in rfl rfl rfl ?_
  refine x_top (show _ = Value.int ((858993459 : Int32)) from congrArg Value.int (by decide)) ?_
  refine x_in rfl rfl rfl ?_
  refine x_in rfl rfl rfl ?_
  refine x_in rfl rfl rfl ?_
  refine x_in rfl rfl rfl ?_
  refine x_in rfl rfl rfl ?_
  refine x_in rfl rfl rfl ?_
  refine x_top (show _ = Value.int ((4 : Int32)) from congrArg Value.int (by decide)) ?_
  refine x_in rfl rfl rfl ?_
  refine x_in rfl rfl rfl ?_
  refine x_in rfl rfl rfl ?_
  refine x_top (show _ = Value.int ((252645135 : Int32)) from congrArg Value.int (by decide)) ?_
  refine x_in rfl rfl rfl ?_
  refine x_in rfl rfl rfl ?_
  refine x_in rfl rfl rfl ?_
  refine x_in rfl rfl rfl ?_
  refine x_in rfl rfl rfl ?_
  refine x_top (show _ = Value.int ((8 : Int32)) from congrArg Value.int (by decide)) ?_
  refine x_in rfl rfl rfl ?_
  refine x_in rfl rfl rfl ?_
  refine x_in rfl rfl rfl ?_
  refine x_in rfl rfl rfl ?_
  refine x_in rfl rfl rfl ?_
  refine x_in rfl rfl rfl ?_
  refine x_top (show _ = Value.int ((16 : Int32)) from congrArg Value.int (by decide)) ?_
  refine x_in rfl rfl rfl ?_
  refine x_in rfl rfl rfl ?_
  refine x_in rfl rfl rfl ?_
  refine x_in rfl rfl rfl ?_
  refine x_in rfl rfl rfl ?_
  refine x_top (show _ = Value.int ((63 : Int32)) from congrArg Value.int (by decide)) ?_
  refine x_in rfl rfl rfl ?_
  refine x_gen (fun v => ?_)
  refine x_ret rfl rfl ?_
  exact k v
set_option maxRecDepth 100000 in
set_option maxHeartbeats 40000000 in
theorem c_bc0 {X : Nat → List Int32} {d u w : Nat} {h : m_H} {K : Nat → Nat → m_R → Prop} (k : K u w (some (.int 0), h)) : x_R X (d + 1) 179 u w [.int 0] h K := by
  refine x_enter (Nat.le_of_ble_eq_true rfl) ?_
  refine x_in rfl rfl rfl ?_
  refine x_in rfl rfl rfl ?_
  refine x_in rfl rfl rfl ?_
  refine x_top (show _ = Value.int ((1 : Int32)) from congrArg Value.int (by decide)) ?_
  refine x_in rfl rfl rfl ?_
  refine x_top (show _ = Value.int ((0 : Int32)) from congrArg Value.int (by decide)) ?_
  refine x_in rfl rfl rfl ?_
  refine x_top (show _ = Value.int ((1431655765 : Int32)) from congrArg Value.int (by decide)) ?_
  refine x_in rfl rfl rfl ?_
  refine x_top (show _ = Value.int ((0 : Int32)) from congrArg Value.int (by decide)) ?_
  refine x_in rfl rfl rfl ?_
  refine x_top (show _ = Value.int ((0 : Int32)) from congrArg Value.int (by decide)) ?_
  refine x_in rfl rfl rfl ?_
  refine x_in rfl rfl rfl ?_
  refine x_in rfl rfl rfl ?_
  refine x_top (show _ = Value.int ((858993459 : Int32)) from congrArg Value.int (by decide)) ?_
  refine x_in rfl rfl rfl ?_
  refine x_top (show _ = Value.int ((0 : Int32)) from congrArg Value.int (by decide)) ?_
  refine x_in rfl rfl rfl ?_
  refine x_in rfl rfl rfl ?_
  refine x_top (show _ = Value.int ((2 : Int32)) from congrArg Value.int (by decide)) ?_
  refine x_in rfl rfl rfl ?_
  refine x_top (show _ = Value.int ((0 : Int32)) from congrArg Value.int (by decide)) ?_
  refine x_in rfl rfl rfl ?_
  refine x_top (show _ = Value.int ((858993459 : Int32)) from congrArg Value.int (by decide)) ?_
  refine x_in rfl rfl rfl ?_
  refine x_top (show _ = Value.int ((0 : Int32)) from congrArg Value.int (by decide)) ?_
  refine x_in rfl rfl rfl ?_
  refine x_top (show _ = Value.int ((0 : Int32)) from congrArg Value.int (by decide)) ?_
  refine x_in rfl rfl rfl ?_
  refine x_in rfl rfl rfl ?_
  refine x_in rfl rfl rfl ?_
  refine x_in rfl rfl rfl ?_
  refine x_top (show _ = Value.int ((4 : Int32)) from congrArg Value.int (by decide)) ?_
  refine x_in rfl rfl rfl ?_
  refine x_top (show _ = Value.int ((0 : Int32)) from congrArg Value.int (by decide)) ?_
  refine x_in rfl rfl rfl ?_
  refine x_top (show _ = Value.int ((0 : Int32)) from congrArg Value.int (by decide)) ?_
  refine x_in rfl rfl rfl ?_
  refine x_top (show _ = Value.int ((252645135 : Int32)) from congrArg Value.int (by decide)) ?_
  refine x_in rfl rfl rfl ?_
  refine x_top (show _ = Value.int ((0 : Int32)) from congrArg Value.int (by decide)) ?_
  refine x_in rfl rfl rfl ?_
  refine x_in rfl rfl rfl ?_
  refine x_in rfl rfl rfl ?_
  refine x_in rfl rfl rfl ?_
  refine x_top (show _ = Value.int ((8 : Int32)) from congrArg Value.int (by decide)) ?_
  refine x_in rfl rfl rfl ?_
  refine x_top (show _ = Value.int ((0 : Int32)) from congrArg Value.int (by decide)) ?_
  refine x_in rfl rfl rfl ?_
  refine x_top (show _ = Value.int ((0 : Int32)) from congrArg Value.int (by decide)) ?_
  refine x_in rfl rfl rfl ?_
  refine x_in rfl rfl rfl ?_
  refine x_in rfl rfl rfl ?_
  refine x_in rfl rfl rfl ?_
  refine x_top (show _ = Value.int ((16 : Int32)) from congrArg Value.int (by decide)) ?_
  refine x_in rfl rfl rfl ?_
  refine x_top (show _ = Value.int ((0 : Int32)) from congrArg Value.int (by decide)) ?_
  refine x_in rfl rfl rfl ?_
  refine x_top (show _ = Value.int ((0 : Int32)) from congrArg Value.int (by decide)) ?_
  refine x_in rfl rfl rfl ?_
  refine x_in rfl rfl rfl ?_
  refine x_in rfl rfl rfl ?_
  refine x_top (show _ = Value.int ((63 : Int32)) from congrArg Value.int (by decide)) ?_
  refine x_in rfl rfl rfl ?_
  refine x_top (show _ = Value.int ((0 : Int32)) from congrArg Value.int (by decide)) ?_
  refine x_ret rfl rfl ?_
  exact k
set_option maxRecDepth 100000 in
set_option maxHeartbeats 40000000 in
theorem c_c10 {X : Nat → List Int32} {d u w : Nat} {h : m_H} {K : Nat → Nat → m_R → Prop} (k : K u w (some (.int 0), h)) : x_R X (d + 1) 110 u w [.int 0] h K := by
  refine x_enter (Nat.le_of_ble_eq_true rfl) ?_
  refine x_in rfl rfl rfl ?_
  refine x_top (show _ = Value.int ((0 : Int32)) from congrArg Value.int (by decide)) ?_
  refine x_in rfl rfl rfl ?_
  refine x_in rfl rfl rfl ?_
  refine x_top (show _ = Value.int ((0 : Int32)) from congrArg Value.int (by decide)) ?_
  refine x_in rfl rfl rfl ?_
  refine x_in rfl rfl rfl ?_
  refine x_in rfl rfl rfl ?_
  refine x_top (show _ = Value.int ((16 : Int32)) from congrArg Value.int (by decide)) ?_
  refine x_in rfl rfl rfl ?_
  refine x_in rfl rfl rfl ?_
  refine x_in rfl rfl rfl ?_
  refine x_in rfl rfl rfl ?_
  refine x_in rfl rfl rfl ?_
  refine x_top (show _ = Value.int ((0 : Int32)) from congrArg Value.int (by decide)) ?_
  refine x_in rfl rfl rfl ?_
  refine x_top (show _ = Value.int ((1 : Int32)) from congrArg Value.int (by decide)) ?_
  refine x_in rfl rfl rfl ?_
  refine x_top (show _ = Value.int ((0 : Int32)) from congrArg Value.int (by decide)) ?_
  refine x_in rfl rfl rfl ?_
  refine x_top (show _ = Value.int ((0 : Int32)) from congrArg Value.int (by decide)) ?_
  refine x_in rfl rfl rfl ?_
  refine x_iinc (z := (1 : Int32)) rfl rfl (by decide) ?_
  refine x_in rfl rfl rfl ?_
  refine x_in rfl rfl rfl ?_
  refine x_in rfl rfl rfl ?_
  refine x_top (show _ = Value.int ((16 : Int32)) from congrArg Value.int (by decide)) ?_
  refine x_in rfl rfl rfl ?_
  refine x_in rfl rfl rfl ?_
  refine x_in rfl rfl rfl ?_
  refine x_in rfl rfl rfl ?_
  refine x_in rfl rfl rfl ?_
  refine x_top (show _ = Value.int ((0 : Int32)) from congrArg Value.int (by decide)) ?_
  refine x_in rfl rfl rfl ?_
  refine x_top (show _ = Value.int ((1 : Int32)) from congrArg Value.int (by decide)) ?_
  refine x_in rfl rfl rfl ?_
  refine x_top (show _ = Value.int ((0 : Int32)) from congrArg Value.int (by decide)) ?_
  refine x_in rfl rfl rfl ?_
  refine x_top (show _ = Value.int ((0 : Int32)) from congrArg Value.int (by decide)) ?_
  refine x_in rfl rfl rfl ?_
  refine x_iinc (z := (2 : Int32)) rfl rfl (by decide) ?_
  refine x_in rfl rfl rfl ?_
  refine x_in rfl rfl rfl ?_
  refine x_in rfl rfl rfl ?_
  refine x_top (show _ = Value.int ((16 : Int32)) from congrArg Value.int (by decide)) ?_
  refine x_in rfl rfl rfl ?_
  refine x_in rfl rfl rfl ?_
  refine x_in rfl rfl rfl ?_
  refine x_in rfl rfl rfl ?_
  refine x_in rfl rfl rfl ?_
  refine x_top (show _ = Value.int ((0 : Int32)) from congrArg Value.int (by decide)) ?_
  refine x_in rfl rfl rfl ?_
  refine x_top (show _ = Value.int ((1 : Int32)) from congrArg Value.int (by decide)) ?_
  refine x_in rfl rfl rfl ?_
  refine x_top (show _ = Value.int ((0 : Int32)) from congrArg Value.int (by decide)) ?_
  refine x_in rfl rfl rfl ?_
  refine x_top (show _ = Value.int ((0 : Int32)) from congrArg Value.int (by decide)) ?_
  refine x_in rfl rfl rfl ?_
  refine x_iinc (z := (3 : Int32)) rfl rfl (by decide) ?_
  refine x_in rfl rfl rfl ?_
  refine x_in rfl rfl rfl ?_
  refine x_in rfl rfl rfl ?_
  refine x_top (show _ = Value.int ((16 : Int32)) from congrArg Value.int (by decide)) ?_
  refine x_in rfl rfl rfl ?_
  refine x_in rfl rfl rfl ?_
  refine x_in rfl rfl rfl ?_
  refine x_in rfl rfl rfl ?_
  refine x_in rfl rfl rfl ?_
  refine x_top (show _ = Value.int ((0 : Int32)) from congrArg Value.int (by decide)) ?_
  refine x_in rfl rfl rfl ?_
  refine x_top (show _ = Value.int ((1 : Int32)) from congrArg Value.int (by decide)) ?_
  refine x_in rfl rfl rfl ?_
  refine x_top (show _ = Value.int ((0 : Int32)) from congrArg Value.int (by decide)) ?_
  refine x_in rfl rfl rfl ?_
  refine x_top (show _ = Value.int ((0 : Int32)) from congrArg Value.int (by decide)) ?_
  refine x_in rfl rfl rfl ?_
  refine x_iinc (z := (4 : Int32)) rfl rfl (by decide) ?_
  refine x_in rfl rfl rfl ?_
  refine x_in rfl rfl rfl ?_
  refine x_in rfl rfl rfl ?_
  refine x_top (show _ = Value.int ((16 : Int32)) from congrArg Value.int (by decide)) ?_
  refine x_in rfl rfl rfl ?_
  refine x_in rfl rfl rfl ?_
  refine x_in rfl rfl rfl ?_
  refine x_in rfl rfl rfl ?_
  refine x_in rfl rfl rfl ?_
  refine x_top (show _ = Value.int ((0 : Int32)) from congrArg Value.int (by decide)) ?_
  refine x_in rfl rfl rfl ?_
  refine x_top (show _ = Value.int ((1 : Int32)) from congrArg Value.int (by decide)) ?_
  refine x_in rfl rfl rfl ?_
  refine x_top (show _ = Value.int ((0 : Int32)) from congrArg Value.int (by decide)) ?_
  refine x_in rfl rfl rfl ?_
  refine x_top (show _ = Value.int ((0 : Int32)) from congrArg Value.int (by decide)) ?_
  refine x_in rfl rfl rfl ?_
  refine x_iinc (z := (5 : Int32)) rfl rfl (by decide) ?_
  refine x_in rfl rfl rfl ?_
  refine x_in rfl rfl rfl ?_
  refine x_in rfl rfl rfl ?_
  refine x_top (show _ = Value.int ((16 : Int32)) from congrArg Value.int (by decide)) ?_
  refine x_in rfl rfl rfl ?_
  refine x_in rfl rfl rfl ?_
  refine x_in rfl rfl rfl ?_
  refine x_in rfl rfl rfl ?_
  refine x_in rfl rfl rfl ?_
  refine x_top (show _ = Value.int ((0 : Int32)) from congrArg Value.int (by decide)) ?_
  refine x_in rfl rfl rfl ?_
  refine x_top (show _ = Value.int ((1 : Int32)) from congrArg Value.int (by decide)) ?_
  refine x_in rfl rfl rfl ?_
  refine x_top (show _ = Value.int ((0 : Int32)) from congrArg Value.int (by decide)) ?_
  refine x_in rfl rfl rfl ?_
  refine x_top (show _ = Value.int ((0 : Int32)) from congrArg Value.int (by decide)) ?_
  refine x_in rfl rfl rfl ?_
  refine x_iinc (z := (6 : Int32)) rfl rfl (by decide) ?_
  refine x_in rfl rfl rfl ?_
  refine x_in rfl rfl rfl ?_
  refine x_in rfl rfl rfl ?_
  refine x_top (show _ = Value.int ((16 : Int32)) from congrArg Value.int (by decide)) ?_
  refine x_in rfl rfl rfl ?_
  refine x_in rfl rfl rfl ?_
  refine x_in rfl rfl rfl ?_
  refine x_in rfl rfl rfl ?_
  refine x_in rfl rfl rfl ?_
  refine x_top (show _ = Value.int ((0 : Int32)) from congrArg Value.int (by decide)) ?_
  refine x_in rfl rfl rfl ?_
  refine x_top (show _ = Value.int ((1 : Int32)) from congrArg Value.int (by decide)) ?_
  refine x_in rfl rfl rfl ?_
  refine x_top (show _ = Value.int ((0 : Int32)) from congrArg Value.int (by decide)) ?_
  refine x_in rfl rfl rfl ?_
  refine x_top (show _ = Value.int ((0 : Int32)) from congrArg Value.int (by decide)) ?_
  refine x_in rfl rfl rfl ?_
  refine x_iinc (z := (7 : Int32)) rfl rfl (by decide) ?_
  refine x_in rfl rfl rfl ?_
  refine x_in rfl rfl rfl ?_
  refine x_in rfl rfl rfl ?_
  refine x_top (show _ = Value.int ((16 : Int32)) from congrArg Value.int (by decide)) ?_
  refine x_in rfl rfl rfl ?_
  refine x_in rfl rfl rfl ?_
  refine x_in rfl rfl rfl ?_
  refine x_in rfl rfl rfl ?_
  refine x_in rfl rfl rfl ?_
  refine x_top (show _ = Value.int ((0 : Int32)) from congrArg Value.int (by decide)) ?_
  refine x_in rfl rfl rfl ?_
  refine x_top (show _ = Value.int ((1 : Int32)) from congrArg Value.int (by decide)) ?_
  refine x_in rfl rfl rfl ?_
  refine x_top (show _ = Value.int ((0 : Int32)) from congrArg Value.int (by decide)) ?_
  refine x_in rfl rfl rfl ?_
  refine x_top (show _ = Value.int ((0 : Int32)) from congrArg Value.int (by decide)) ?_
  refine x_in rfl rfl rfl ?_
  refine x_iinc (z := (8 : Int32)) rfl rfl (by decide) ?_
  refine x_in rfl rfl rfl ?_
  refine x_in rfl rfl rfl ?_
  refine x_in rfl rfl rfl ?_
  refine x_top (show _ = Value.int ((16 : Int32)) from congrArg Value.int (by decide)) ?_
  refine x_in rfl rfl rfl ?_
  refine x_in rfl rfl rfl ?_
  refine x_in rfl rfl rfl ?_
  refine x_in rfl rfl rfl ?_
  refine x_in rfl rfl rfl ?_
  refine x_top (show _ = Value.int ((0 : Int32)) from congrArg Value.int (by decide)) ?_
  refine x_in rfl rfl rfl ?_
  refine x_top (show _ = Value.int ((1 : Int32)) from congrArg Value.int (by decide)) ?_
  refine x_in rfl rfl rfl ?_
  refine x_top (show _ = Value.int ((0 : Int32)) from congrArg Value.int (by decide)) ?_
  refine x_in rfl rfl rfl ?_
  refine x_top (show _ = Value.int ((0 : Int32)) from congrArg Value.int (by decide)) ?_
  refine x_in rfl rfl rfl ?_
  refine x_iinc (z := (9 : Int32)) rfl rfl (by decide) ?_
  refine x_in rfl rfl rfl ?_
  refine x_in rfl rfl rfl ?_
  refine x_in rfl rfl rfl ?_
  refine x_top (show _ = Value.int ((16 : Int32)) from congrArg Value.int (by decide)) ?_
  refine x_in rfl rfl rfl ?_
  refine x_in rfl rfl rfl ?_
  refine x_in rfl rfl rfl ?_
  refine x_in rfl rfl rfl ?_
  refine x_in rfl rfl rfl ?_
  refine x_top (show _ = Value.int ((0 : Int32)) from congrArg Value.int (by decide)) ?_
  refine x_in rfl rfl rfl ?_
  refine x_top (show _ = Value.int ((1 : Int32)) from congrArg Value.int (by decide)) ?_
  refine x_in rfl rfl rfl ?_
  refine x_top (show _ = Value.int ((0 : Int32)) from congrArg Value.int (by decide)) ?_
  refine x_in rfl rfl rfl ?_
  refine x_top (show _ = Value.int ((0 : Int32)) from congrArg Value.int (by decide)) ?_
  refine x_in rfl rfl rfl ?_
  refine x_iinc (z := (10 : Int32)) rfl rfl (by decide) ?_
  refine x_in rfl rfl rfl ?_
  refine x_in rfl rfl rfl ?_
  refine x_in rfl rfl rfl ?_
  refine x_top (show _ = Value.int ((16 : Int32)) from congrArg Value.int (by decide)) ?_
  refine x_in rfl rfl rfl ?_
  refine x_in rfl rfl rfl ?_
  refine x_in rfl rfl rfl ?_
  refine x_in rfl rfl rfl ?_
  refine x_in rfl rfl rfl ?_
  refine x_top (show _ = Value.int ((0 : Int32)) from congrArg Value.int (by decide)) ?_
  refine x_in rfl rfl rfl ?_
  refine x_top (show _ = Value.int ((1 : Int32)) from congrArg Value.int (by decide)) ?_
  refine x_in rfl rfl rfl ?_
  refine x_top (show _ = Value.int ((0 : Int32)) from congrArg Value.int (by decide)) ?_
  refine x_in rfl rfl rfl ?_
  refine x_top (show _ = Value.int ((0 : Int32)) from congrArg Value.int (by decide)) ?_
  refine x_in rfl rfl rfl ?_
  refine x_iinc (z := (11 : Int32)) rfl rfl (by decide) ?_
  refine x_in rfl rfl rfl ?_
  refine x_in rfl rfl rfl ?_
  refine x_in rfl rfl rfl ?_
  refine x_top (show _ = Value.int ((16 : Int32)) from congrArg Value.int (by decide)) ?_
  refine x_in rfl rfl rfl ?_
  refine x_in rfl rfl rfl ?_
  refine x_in rfl rfl rfl ?_
  refine x_in rfl rfl rfl ?_
  refine x_in rfl rfl rfl ?_
  refine x_top (show _ = Value.int ((0 : Int32)) from congrArg Value.int (by decide)) ?_
  refine x_in rfl rfl rfl ?_
  refine x_top (show _ = Value.int ((1 : Int32)) from congrArg Value.int (by decide)) ?_
  refine x_in rfl rfl rfl ?_
  refine x_top (show _ = Value.int ((0 : Int32)) from congrArg Value.int (by decide)) ?_
  refine x_in rfl rfl rfl ?_
  refine x_top (show _ = Value.int ((0 : Int32)) from congrArg Value.int (by decide)) ?_
  refine x_in rfl rfl rfl ?_
  refine x_iinc (z := (12 : Int32)) rfl rfl (by decide) ?_
  refine x_in rfl rfl rfl ?_
  refine x_in rfl rfl rfl ?_
  refine x_in rfl rfl rfl ?_
  refine x_top (show _ = Value.int ((16 : Int32)) from congrArg Value.int (by decide)) ?_
  refine x_in rfl rfl rfl ?_
  refine x_in rfl rfl rfl ?_
  refine x_in rfl rfl rfl ?_
  refine x_in rfl rfl rfl ?_
  refine x_in rfl rfl rfl ?_
  refine x_top (show _ = Value.int ((0 : Int32)) from congrArg Value.int (by decide)) ?_
  refine x_in rfl rfl rfl ?_
  refine x_top (show _ = Value.int ((1 : Int32)) from congrArg Value.int (by decide)) ?_
  refine x_in rfl rfl rfl ?_
  refine x_top (show _ = Value.int ((0 : Int32)) from congrArg Value.int (by decide)) ?_
  refine x_in rfl rfl rfl ?_
  refine x_top (show _ = Value.int ((0 : Int32)) from congrArg Value.int (by decide)) ?_
  refine x_in rfl rfl rfl ?_
  refine x_iinc (z := (13 : Int32)) rfl rfl (by decide) ?_
  refine x_in rfl rfl rfl ?_
  refine x_in rfl rfl rfl ?_
  refine x_in rfl rfl rfl ?_
  refine x_top (show _ = Value.int ((16 : Int32)) from congrArg Value.int (by decide)) ?_
  refine x_in rfl rfl rfl ?_
  refine x_in rfl rfl rfl ?_
  refine x_in rfl rfl rfl ?_
  refine x_in rfl rfl rfl ?_
  refine x_in rfl rfl rfl ?_
  refine x_top (show _ = Value.int ((0 : Int32)) from congrArg Value.int (by decide)) ?_
  refine x_in rfl rfl rfl ?_
  refine x_top (show _ = Value.int ((1 : Int32)) from congrArg Value.int (by decide)) ?_
  refine x_in rfl rfl rfl ?_
  refine x_top (show _ = Value.int ((0 : Int32)) from congrArg Value.int (by decide)) ?_
  refine x_in rfl rfl rfl ?_
  refine x_top (show _ = Value.int ((0 : Int32)) from congrArg Value.int (by decide)) ?_
  refine x_in rfl rfl rfl ?_
  refine x_iinc (z := (14 : Int32)) rfl rfl (by decide) ?_
  refine x_in rfl rfl rfl ?_
  refine x_in rfl rfl rfl ?_
  refine x_in rfl rfl rfl ?_
  refine x_top (show _ = Value.int ((16 : Int32)) from congrArg Value.int (by decide)) ?_
  refine x_in rfl rfl rfl ?_
  refine x_in rfl rfl rfl ?_
  refine x_in rfl rfl rfl ?_
  refine x_in rfl rfl rfl ?_
  refine x_in rfl rfl rfl ?_
  refine x_top (show _ = Value.int ((0 : Int32)) from congrArg Value.int (by decide)) ?_
  refine x_in rfl rfl rfl ?_
  refine x_top (show _ = Value.int ((1 : Int32)) from congrArg Value.int (by decide)) ?_
  refine x_in rfl rfl rfl ?_
  refine x_top (show _ = Value.int ((0 : Int32)) from congrArg Value.int (by decide)) ?_
  refine x_in rfl rfl rfl ?_
  refine x_top (show _ = Value.int ((0 : Int32)) from congrArg Value.int (by decide)) ?_
  refine x_in rfl rfl rfl ?_
  refine x_iinc (z := (15 : Int32)) rfl rfl (by decide) ?_
  refine x_in rfl rfl rfl ?_
  refine x_in rfl rfl rfl ?_
  refine x_in rfl rfl rfl ?_
  refine x_top (show _ = Value.int ((16 : Int32)) from congrArg Value.int (by decide)) ?_
  refine x_in rfl rfl rfl ?_
  refine x_in rfl rfl rfl ?_
  refine x_in rfl rfl rfl ?_
  refine x_in rfl rfl rfl ?_
  refine x_in rfl rfl rfl ?_
  refine x_top (show _ = Value.int ((0 : Int32)) from congrArg Value.int (by decide)) ?_
  refine x_in rfl rfl rfl ?_
  refine x_top (show _ = Value.int ((1 : Int32)) from congrArg Value.int (by decide)) ?_
  refine x_in rfl rfl rfl ?_
  refine x_top (show _ = Value.int ((0 : Int32)) from congrArg Value.int (by decide)) ?_
  refine x_in rfl rfl rfl ?_
  refine x_top (show _ = Value.int ((0 : Int32)) from congrArg Value.int (by decide)) ?_
  refine x_in rfl rfl rfl ?_
  refine x_iinc (z := (16 : Int32)) rfl rfl (by decide) ?_
  refine x_in rfl rfl rfl ?_
  refine x_in rfl rfl rfl ?_
  refine x_in rfl rfl rfl ?_
  refine x_top (show _ = Value.int ((16 : Int32)) from congrArg Value.int (by decide)) ?_
  refine x_in rfl rfl rfl ?_
  refine x_in rfl rfl rfl ?_
  refine x_ret rfl rfl ?_
  exact k
set_option maxRecDepth 100000 in
set_option maxHeartbeats 4000000 in
theorem c_20_0 (n : Nat) (c a2 a3 a4 a5 : Int32) : x_E (m_X [c, 0, a2, a3, a4, a5]) 60 181 193 11164 (n + 300) 936 [(3, .int 0), (2, .ref 170), (1, .ref 0), (0, .ref 1000000)] [] m_h0 lK := by
  refine x_in rfl rfl rfl ?_
  refine x_in rfl rfl rfl ?_
  refine x_in rfl rfl rfl ?_
  refine x_in rfl rfl rfl ?_
  refine x_top (show _ = Value.int ((1 : Int32)) from congrArg Value.int (by decide)) ?_
  refine x_in rfl rfl rfl ?_
  refine x_top (show _ = Value.int ((1 : Int32)) from congrArg Value.int (by decide)) ?_
  refine x_in rfl rfl rfl ?_
  refine x_in rfl rfl rfl ?_
  refine x_in rfl rfl rfl ?_
  refine x_in rfl rfl rfl ?_
  refine x_top (show _ = Value.int ((2 : Int32)) from congrArg Value.int (by decide)) ?_
  refine x_in rfl rfl rfl ?_
  refine x_top (show _ = Value.int ((2 : Int32)) from congrArg Value.int (by decide)) ?_
  refine x_in rfl rfl rfl ?_
  refine x_in rfl rfl rfl ?_
  refine x_in rfl rfl rfl ?_
  refine x_in rfl rfl rfl ?_
  refine x_top (show _ = Value.int ((3 : Int32)) from congrArg Value.int (by decide)) ?_
  refine x_in rfl rfl rfl ?_
  refine x_top (show _ = Value.int ((3 : Int32)) from congrArg Value.int (by decide)) ?_
  refine x_in rfl rfl rfl ?_
  refine x_in rfl rfl rfl ?_
  refine x_in rfl rfl rfl ?_
  refine x_in rfl rfl rfl ?_
  refine x_top (show _ = Value.int ((4 : Int32)) from congrArg Value.int (by decide)) ?_
  refine x_in rfl rfl rfl ?_
  refine x_top (show _ = Value.int ((4 : Int32)) from congrArg Value.int (by decide)) ?_
  refine x_in rfl rfl rfl ?_
  refine x_in rfl rfl rfl ?_
  refine x_in rfl rfl rfl ?_
  refine x_in rfl rfl rfl ?_
  refine x_top (show _ = Value.int ((5 : Int32)) from congrArg Value.int (by decide)) ?_
  refine x_in rfl rfl rfl ?_
  refine x_top (show _ = Value.int ((5 : Int32)) from congrArg Value.int (by decide)) ?_
  refine x_in rfl rfl rfl ?_
  refine x_cV rfl rfl rfl rfl ⟨rfl, (Nat.le_of_ble_eq_true rfl), (Nat.le_of_ble_eq_true rfl)⟩ (x_enter (Nat.le_of_ble_eq_true rfl) ?_)
  refine x_in rfl rfl rfl ?_
  refine x_cS rfl (by decide) rfl rfl ⟨(Nat.le_of_ble_eq_true rfl), (Nat.le_of_ble_eq_true rfl)⟩ (x_enter (Nat.le_of_ble_eq_true rfl) ?_)
  refine x_in rfl rfl rfl ?_
  refine x_br rfl rfl (fun c1 => ?_) (fun c1 => ?_)
  · have ec1 := (z_1 (0) (by decide)).mp c1
    refine x_in rfl rfl rfl ?_
    refine x_top (show _ = Value.int ((0 : Int32)) from congrArg Value.int (by decide)) ?_
    refine x_ret rfl rfl ?_
    refine x_in rfl rfl rfl ?_
    refine x_in rfl rfl rfl ?_
    refine x_top (show _ = Value.int ((-1 : Int32)) from congrArg Value.int (by decide)) ?_
    refine x_ret rfl rfl ?_
    refine x_in rfl rfl rfl ?_
    refine x_in rfl rfl rfl ?_
    refine x_in rfl rfl rfl ?_
    refine x_in rfl rfl rfl ?_
    refine x_top (show _ = Value.int ((1 : Int32)) from congrArg Value.int (by decide)) ?_
    refine x_in rfl rfl rfl ?_
    refine x_top (show _ = Value.int ((1 : Int32)) from congrArg Value.int (by decide)) ?_
    refine x_in rfl rfl rfl ?_
    refine x_in rfl rfl rfl ?_
    refine x_in rfl rfl rfl ?_
    refine x_in rfl rfl rfl ?_
    refine x_top (show _ = Value.int ((2 : Int32)) from congrArg Value.int (by decide)) ?_
    refine x_in rfl rfl rfl ?_
    refine x_top (show _ = Value.int ((2 : Int32)) from congrArg Value.int (by decide)) ?_
    refine x_in rfl rfl rfl ?_
    refine x_in rfl rfl rfl ?_
    refine x_in rfl rfl rfl ?_
    refine x_in rfl rfl rfl ?_
    refine x_top (show _ = Value.int ((3 : Int32)) from congrArg Value.int (by decide)) ?_
    refine x_in rfl rfl rfl ?_
    refine x_top (show _ = Value.int ((3 : Int32)) from congrArg Value.int (by decide)) ?_
    refine x_in rfl rfl rfl ?_
    refine x_in rfl rfl rfl ?_
    refine x_in rfl rfl rfl ?_
    refine x_in rfl rfl rfl ?_
    refine x_top (show _ = Value.int ((4 : Int32)) from congrArg Value.int (by decide)) ?_
    refine x_in rfl rfl rfl ?_
    refine x_top (show _ = Value.int ((4 : Int32)) from congrArg Value.int (by decide)) ?_
    refine x_in rfl rfl rfl ?_
    refine x_in rfl rfl rfl ?_
    refine x_in rfl rfl rfl ?_
    refine x_in rfl rfl rfl ?_
    refine x_top (show _ = Value.int ((5 : Int32)) from congrArg Value.int (by decide)) ?_
    refine x_in rfl rfl rfl ?_
    refine x_top (show _ = Value.int ((5 : Int32)) from congrArg Value.int (by decide)) ?_
    refine x_in rfl rfl rfl ?_
    refine x_cV rfl rfl rfl rfl ⟨rfl, (Nat.le_of_ble_eq_true rfl), (Nat.le_of_ble_eq_true rfl)⟩ (x_enter (Nat.le_of_ble_eq_true rfl) ?_)
    refine x_in rfl rfl rfl ?_
    refine x_in rfl rfl rfl ?_
    refine x_top (show _ = Value.int ((0 : Int32)) from congrArg Value.int (by decide)) ?_
    refine x_in rfl rfl rfl ?_
    refine x_top (show _ = Value.int ((4 : Int32)) from congrArg Value.int (by decide)) ?_
    refine x_cS rfl (by decide) rfl rfl ⟨(Nat.le_of_ble_eq_true rfl), (Nat.le_of_ble_eq_true rfl)⟩ (x_enter (Nat.le_of_ble_eq_true rfl) ?_)
    refine x_in rfl rfl rfl ?_
    refine x_in rfl rfl rfl ?_
    refine x_bT rfl rfl ((z_1 (0) (by decide)).mpr (by omega)) ?_
    refine x_in rfl rfl rfl ?_
    refine x_top (show _ = Value.int ((0 : Int32)) from congrArg Value.int (by decide)) ?_
    refine x_ret rfl rfl ?_
    refine x_in rfl rfl rfl ?_
    refine x_in rfl rfl rfl ?_
    refine x_top (show _ = Value.int ((-1 : Int32)) from congrArg Value.int (by decide)) ?_
    refine x_ret rfl rfl ?_
    refine x_in rfl rfl rfl ?_
    refine x_iinc (z := (6 : Int32)) rfl rfl (by decide) ?_
    refine x_in rfl rfl rfl ?_
    refine x_in rfl rfl rfl ?_
    refine x_in rfl rfl rfl ?_
    refine x_in rfl rfl rfl ?_
    refine x_top (show _ = Value.int ((6 : Int32)) from rfl) ?_
    refine x_in rfl rfl rfl ?_
    refine x_top (show _ = Value.int ((6 : Int32)) from congrArg Value.int (by decide)) ?_
    refine x_in rfl rfl rfl ?_
    refine x_top (show _ = Value.int ((0 : Int32)) from congrArg Value.int (by decide)) ?_
    refine x_in rfl rfl rfl ?_
    refine x_in rfl rfl rfl ?_
    refine x_top (show _ = Value.int ((1 : Int32)) from congrArg Value.int (by decide)) ?_
    refine x_ret rfl rfl ?_
    exact ⟨rfl, by decide, by decide⟩
  · have ec1 := mt (z_1 (0) (by decide)).mpr c1
    refine x_in rfl rfl rfl ?_
    refine x_in rfl rfl rfl ?_
    refine x_top (show _ = Value.int ((5 : Int32)) from congrArg Value.int (by decide)) ?_
    refine x_br rfl rfl (fun c2 => ?_) (fun c2 => ?_)
    · have ec2 := (z_4 (5) (by decide)).mp c2
      refine x_in rfl rfl rfl ?_
      refine x_top (show _ = Value.int ((0 : Int32)) from congrArg Value.int (by decide)) ?_
      refine x_ret rfl rfl ?_
      refine x_in rfl rfl rfl ?_
      refine x_in rfl rfl rfl ?_
      refine x_top (show _ = Value.int ((-1 : Int32)) from congrArg Value.int (by decide)) ?_
      refine x_ret rfl rfl ?_
      refine x_in rfl rfl rfl ?_
      refine x_in rfl rfl rfl ?_
      refine x_in rfl rfl rfl ?_
      refine x_in rfl rfl rfl ?_
      refine x_top (show _ = Value.int ((1 : Int32)) from congrArg Value.int (by decide)) ?_
      refine x_in rfl rfl rfl ?_
      refine x_top (show _ = Value.int ((1 : Int32)) from congrArg Value.int (by decide)) ?_
      refine x_in rfl rfl rfl ?_
      refine x_in rfl rfl rfl ?_
      refine x_in rfl rfl rfl ?_
      refine x_in rfl rfl rfl ?_
      refine x_top (show _ = Value.int ((2 : Int32)) from congrArg Value.int (by decide)) ?_
      refine x_in rfl rfl rfl ?_
      refine x_top (show _ = Value.int ((2 : Int32)) from congrArg Value.int (by decide)) ?_
      refine x_in rfl rfl rfl ?_
      refine x_in rfl rfl rfl ?_
      refine x_in rfl rfl rfl ?_
      refine x_in rfl rfl rfl ?_
      refine x_top (show _ = Value.int ((3 : Int32)) from congrArg Value.int (by decide)) ?_
      refine x_in rfl rfl rfl ?_
      refine x_top (show _ = Value.int ((3 : Int32)) from congrArg Value.int (by decide)) ?_
      refine x_in rfl rfl rfl ?_
      refine x_in rfl rfl rfl ?_
      refine x_in rfl rfl rfl ?_
      refine x_in rfl rfl rfl ?_
      refine x_top (show _ = Value.int ((4 : Int32)) from congrArg Value.int (by decide)) ?_
      refine x_in rfl rfl rfl ?_
      refine x_top (show _ = Value.int ((4 : Int32)) from congrArg Value.int (by decide)) ?_
      refine x_in rfl rfl rfl ?_
      refine x_in rfl rfl rfl ?_
      refine x_in rfl rfl rfl ?_
      refine x_in rfl rfl rfl ?_
      refine x_top (show _ = Value.int ((5 : Int32)) from congrArg Value.int (by decide)) ?_
      refine x_in rfl rfl rfl ?_
      refine x_top (show _ = Value.int ((5 : Int32)) from congrArg Value.int (by decide)) ?_
      refine x_in rfl rfl rfl ?_
      refine x_cV rfl rfl rfl rfl ⟨rfl, (Nat.le_of_ble_eq_true rfl), (Nat.le_of_ble_eq_true rfl)⟩ (x_enter (Nat.le_of_ble_eq_true rfl) ?_)
      refine x_in rfl rfl rfl ?_
      refine x_in rfl rfl rfl ?_
      refine x_top (show _ = Value.int ((0 : Int32)) from congrArg Value.int (by decide)) ?_
      refine x_in rfl rfl rfl ?_
      refine x_top (show _ = Value.int ((4 : Int32)) from congrArg Value.int (by decide)) ?_
      refine x_cS rfl (by decide) rfl rfl ⟨(Nat.le_of_ble_eq_true rfl), (Nat.le_of_ble_eq_true rfl)⟩ (x_enter (Nat.le_of_ble_eq_true rfl) ?_)
      refine x_in rfl rfl rfl ?_
      refine x_in rfl rfl rfl ?_
      refine x_bF rfl rfl (mt (z_1 (0) (by decide)).mp (by omega)) ?_
      refine x_in rfl rfl rfl ?_
      refine x_in rfl rfl rfl ?_
      refine x_bT rfl rfl ((z_2 (4) (by decide)).mpr (by omega)) ?_
      refine x_in rfl rfl rfl ?_
      refine x_top (show _ = Value.int ((0 : Int32)) from congrArg Value.int (by decide)) ?_
      refine x_ret rfl rfl ?_
      refine x_in rfl rfl rfl ?_
      refine x_in rfl rfl rfl ?_
      refine x_top (show _ = Value.int ((-1 : Int32)) from congrArg Value.int (by decide)) ?_
      refine x_ret rfl rfl ?_
      refine x_in rfl rfl rfl ?_
      refine x_iinc (z := (6 : Int32)) rfl rfl (by decide) ?_
      refine x_in rfl rfl rfl ?_
      refine x_in rfl rfl rfl ?_
      refine x_in rfl rfl rfl ?_
      refine x_in rfl rfl rfl ?_
      refine x_top (show _ = Value.int ((6 : Int32)) from rfl) ?_
      refine x_in rfl rfl rfl ?_
      refine x_top (show _ = Value.int ((6 : Int32)) from congrArg Value.int (by decide)) ?_
      refine x_in rfl rfl rfl ?_
      refine x_top (show _ = Value.int ((0 : Int32)) from congrArg Value.int (by decide)) ?_
      refine x_in rfl rfl rfl ?_
      refine x_in rfl rfl rfl ?_
      refine x_top (show _ = Value.int ((1 : Int32)) from congrArg Value.int (by decide)) ?_
      refine x_ret rfl rfl ?_
      exact ⟨rfl, by decide, by decide⟩
    · have ec2 := mt (z_4 (5) (by decide)).mpr c2
      refine x_in rfl rfl rfl ?_
      refine x_top (show _ = Value.int ((1 : Int32)) from congrArg Value.int (by decide)) ?_
      refine x_in rfl rfl rfl ?_
      refine x_ret rfl rfl ?_
      refine x_in rfl rfl rfl ?_
      refine x_in rfl rfl rfl ?_
      refine x_in rfl rfl rfl ?_
      refine x_top (show _ = Value.int ((-1 : Int32)) from congrArg Value.int (by decide)) ?_
      refine x_br rfl rfl (fun c3 => ?_) (fun c3 => ?_)
      · have ec3 := (z_4 (-1) (by decide)).mp c3
        refine x_in rfl rfl rfl ?_
        refine x_cS rfl (by decide) rfl rfl ⟨(Nat.le_of_ble_eq_true rfl), (Nat.le_of_ble_eq_true rfl)⟩ (c_bc0 ?_)
        refine x_in rfl rfl rfl ?_
        refine x_in rfl rfl rfl ?_
        refine x_in rfl rfl rfl ?_
        refine x_in rfl rfl rfl ?_
        refine x_in rfl rfl rfl ?_
        refine x_in rfl rfl rfl ?_
        refine x_top (show _ = Value.int ((0 : Int32)) from congrArg Value.int (by decide)) ?_
        refine x_in rfl rfl rfl ?_
        refine x_in rfl rfl rfl ?_
        refine x_in rfl rfl rfl ?_
        refine x_top (show _ = Value.int ((2 : Int32)) from congrArg Value.int (by decide)) ?_
        refine x_in rfl rfl rfl ?_
        refine x_in rfl rfl rfl ?_
        refine x_top (show _ = Value.int ((-2 : Int32)) from congrArg Value.int (by decide)) ?_
        refine x_ret rfl rfl ?_
        refine x_in rfl rfl rfl ?_
        refine x_in rfl rfl rfl ?_
        refine x_in rfl rfl rfl ?_
        refine x_in rfl rfl rfl ?_
        refine x_top (show _ = Value.int ((1 : Int32)) from congrArg Value.int (by decide)) ?_
        refine x_in rfl rfl rfl ?_
        refine x_top (show _ = Value.int ((1 : Int32)) from congrArg Value.int (by decide)) ?_
        refine x_in rfl rfl rfl ?_
        refine x_in rfl rfl rfl ?_
        refine x_in rfl rfl rfl ?_
        refine x_in rfl rfl rfl ?_
        refine x_top (show _ = Value.int ((2 : Int32)) from congrArg Value.int (by decide)) ?_
        refine x_in rfl rfl rfl ?_
        refine x_top (show _ = Value.int ((2 : Int32)) from congrArg Value.int (by decide)) ?_
        refine x_in rfl rfl rfl ?_
        refine x_in rfl rfl rfl ?_
        refine x_in rfl rfl rfl ?_
        refine x_in rfl rfl rfl ?_
        refine x_top (show _ = Value.int ((3 : Int32)) from congrArg Value.int (by decide)) ?_
        refine x_in rfl rfl rfl ?_
        refine x_top (show _ = Value.int ((3 : Int32)) from congrArg Value.int (by decide)) ?_
        refine x_in rfl rfl rfl ?_
        refine x_in rfl rfl rfl ?_
        refine x_in rfl rfl rfl ?_
        refine x_in rfl rfl rfl ?_
        refine x_top (show _ = Value.int ((4 : Int32)) from congrArg Value.int (by decide)) ?_
        refine x_in rfl rfl rfl ?_
        refine x_top (show _ = Value.int ((4 : Int32)) from congrArg Value.int (by decide)) ?_
        refine x_in rfl rfl rfl ?_
        refine x_in rfl rfl rfl ?_
        refine x_in rfl rfl rfl ?_
        refine x_in rfl rfl rfl ?_
        refine x_top (show _ = Value.int ((5 : Int32)) from congrArg Value.int (by decide)) ?_
        refine x_in rfl rfl rfl ?_
        refine x_top (show _ = Value.int ((5 : Int32)) from congrArg Value.int (by decide)) ?_
        refine x_in rfl rfl rfl ?_
        refine x_cV rfl rfl rfl rfl ⟨rfl, (Nat.le_of_ble_eq_true rfl), (Nat.le_of_ble_eq_true rfl)⟩ (x_enter (Nat.le_of_ble_eq_true rfl) ?_)
        refine x_in rfl rfl rfl ?_
        refine x_in rfl rfl rfl ?_
        refine x_top (show _ = Value.int ((0 : Int32)) from congrArg Value.int (by decide)) ?_
        refine x_in rfl rfl rfl ?_
        refine x_top (show _ = Value.int ((4 : Int32)) from congrArg Value.int (by decide)) ?_
        refine x_cS rfl (by decide) rfl rfl ⟨(Nat.le_of_ble_eq_true rfl), (Nat.le_of_ble_eq_true rfl)⟩ (x_enter (Nat.le_of_ble_eq_true rfl) ?_)
        refine x_in rfl rfl rfl ?_
        refine x_in rfl rfl rfl ?_
        refine x_bF rfl rfl (mt (z_1 (0) (by decide)).mp (by omega)) ?_
        refine x_in rfl rfl rfl ?_
        refine x_in rfl rfl rfl ?_
        refine x_bF rfl rfl (mt (z_2 (4) (by decide)).mp (by omega)) ?_
        refine x_in rfl rfl rfl ?_
        refine x_top (show _ = Value.int ((1 : Int32)) from congrArg Value.int (by decide)) ?_
        refine x_in rfl rfl rfl ?_
        refine x_ret rfl rfl ?_
        refine x_in rfl rfl rfl ?_
        refine x_in rfl rfl rfl ?_
        refine x_in rfl rfl rfl ?_
        refine x_top (show _ = Value.int ((-1 : Int32)) from congrArg Value.int (by decide)) ?_
        refine x_bT rfl rfl ((z_4 (-1) (by decide)).mpr (by omega)) ?_
        refine x_in rfl rfl rfl ?_
        refine x_in rfl rfl rfl ?_
        refine x_top (show _ = Value.int ((0 : Int32)) from congrArg Value.int (by decide)) ?_
        refine x_in rfl rfl rfl ?_
        refine x_top (show _ = Value.int ((1 : Int32)) from congrArg Value.int (by decide)) ?_
        refine x_in rfl rfl rfl ?_
        refine x_in rfl rfl rfl ?_
        refine x_in rfl rfl rfl ?_
        refine x_top (show _ = Value.int ((1 : Int32)) from congrArg Value.int (by decide)) ?_
        refine x_in rfl rfl rfl ?_
        refine x_in rfl rfl rfl ?_
        refine x_top (show _ = Value.int ((1 : Int32)) from congrArg Value.int (by decide)) ?_
        refine x_in rfl rfl rfl ?_
        refine x_top (show _ = Value.int ((1 : Int32)) from congrArg Value.int (by decide)) ?_
        refine x_in rfl rfl rfl ?_
        refine x_top (show _ = Value.int ((0 : Int32)) from congrArg Value.int (by decide)) ?_
        refine x_cS rfl (by decide) rfl rfl ⟨(Nat.le_of_ble_eq_true rfl), (Nat.le_of_ble_eq_true rfl)⟩ (x_enter (Nat.le_of_ble_eq_true rfl) ?_)
        refine x_in rfl rfl rfl ?_
        refine x_in rfl rfl rfl ?_
        refine x_in rfl rfl rfl ?_
        refine x_in rfl rfl rfl ?_
        refine x_in rfl rfl rfl ?_
        refine x_in rfl rfl rfl ?_
        refine x_in rfl rfl rfl ?_
        refine x_top (show _ = Value.int ((1 : Int32)) from congrArg Value.int (by decide)) ?_
        refine x_in rfl rfl rfl ?_
        refine x_ret rfl rfl ?_
        refine x_in rfl rfl rfl ?_
        refine x_in rfl rfl rfl ?_
        refine x_cS rfl (by decide) rfl rfl ⟨(Nat.le_of_ble_eq_true rfl), (Nat.le_of_ble_eq_true rfl)⟩ (c_c10 ?_)
        refine x_in rfl rfl rfl ?_
        refine x_top (show _ = Value.int ((2 : Int32)) from congrArg Value.int (by decide)) ?_
        refine x_in rfl rfl rfl ?_
        refine x_top (show _ = Value.int ((4 : Int32)) from congrArg Value.int (by decide)) ?_
        refine x_cS rfl (by decide) rfl rfl ⟨(Nat.le_of_ble_eq_true rfl), (Nat.le_of_ble_eq_true rfl)⟩ (x_enter (Nat.le_of_ble_eq_true rfl) ?_)
        refine x_in rfl rfl rfl ?_
        refine x_in rfl rfl rfl ?_
        refine x_in rfl rfl rfl ?_
        refine x_in rfl rfl rfl ?_
        refine x_top (show _ = Value.int ((0 : Int32)) from congrArg Value.int (by decide)) ?_
        refine x_ret rfl rfl ?_
        refine x_in rfl rfl rfl ?_
        refine x_in rfl rfl rfl ?_
        refine x_top (show _ = Value.int ((-2 : Int32)) from congrArg Value.int (by decide)) ?_
        refine x_ret rfl rfl ?_
        refine x_in rfl rfl rfl ?_
        refine x_iinc (z := (6 : Int32)) rfl rfl (by decide) ?_
        refine x_in rfl rfl rfl ?_
        refine x_in rfl rfl rfl ?_
        refine x_in rfl rfl rfl ?_
        refine x_in rfl rfl rfl ?_
        refine x_top (show _ = Value.int ((6 : Int32)) from rfl) ?_
        refine x_in rfl rfl rfl ?_
        refine x_top (show _ = Value.int ((6 : Int32)) from congrArg Value.int (by decide)) ?_
        refine x_in rfl rfl rfl ?_
        refine x_top (show _ = Value.int ((0 : Int32)) from congrArg Value.int (by decide)) ?_
        refine x_in rfl rfl rfl ?_
        refine x_in rfl rfl rfl ?_
        refine x_top (show _ = Value.int ((1 : Int32)) from congrArg Value.int (by decide)) ?_
        refine x_ret rfl rfl ?_
        exact ⟨rfl, by decide, by decide⟩
      · have ec3 := mt (z_4 (-1) (by decide)).mpr c3
        refine x_in rfl rfl rfl ?_
        refine x_top (show _ = Value.int ((-1 : Int32)) from congrArg Value.int (by decide)) ?_
        refine x_ret rfl rfl ?_
        refine x_in rfl rfl rfl ?_
        refine x_in rfl rfl rfl ?_
        refine x_in rfl rfl rfl ?_
        refine x_in rfl rfl rfl ?_
        refine x_top (show _ = Value.int ((1 : Int32)) from congrArg Value.int (by decide)) ?_
        refine x_in rfl rfl rfl ?_
        refine x_top (show _ = Value.int ((1 : Int32)) from congrArg Value.int (by decide)) ?_
        refine x_in rfl rfl rfl ?_
        refine x_in rfl rfl rfl ?_
        refine x_in rfl rfl rfl ?_
        refine x_in rfl rfl rfl ?_
        refine x_top (show _ = Value.int ((2 : Int32)) from congrArg Value.int (by decide)) ?_
        refine x_in rfl rfl rfl ?_
        refine x_top (show _ = Value.int ((2 : Int32)) from congrArg Value.int (by decide)) ?_
        refine x_in rfl rfl rfl ?_
        refine x_in rfl rfl rfl ?_
        refine x_in rfl rfl rfl ?_
        refine x_in rfl rfl rfl ?_
        refine x_top (show _ = Value.int ((3 : Int32)) from congrArg Value.int (by decide)) ?_
        refine x_in rfl rfl rfl ?_
        refine x_top (show _ = Value.int ((3 : Int32)) from congrArg Value.int (by decide)) ?_
        refine x_in rfl rfl rfl ?_
        refine x_in rfl rfl rfl ?_
        refine x_in rfl rfl rfl ?_
        refine x_in rfl rfl rfl ?_
        refine x_top (show _ = Value.int ((4 : Int32)) from congrArg Value.int (by decide)) ?_
        refine x_in rfl rfl rfl ?_
        refine x_top (show _ = Value.int ((4 : Int32)) from congrArg Value.int (by decide)) ?_
        refine x_in rfl rfl rfl ?_
        refine x_in rfl rfl rfl ?_
        refine x_in rfl rfl rfl ?_
        refine x_in rfl rfl rfl ?_
        refine x_top (show _ = Value.int ((5 : Int32)) from congrArg Value.int (by decide)) ?_
        refine x_in rfl rfl rfl ?_
        refine x_top (show _ = Value.int ((5 : Int32)) from congrArg Value.int (by decide)) ?_
        refine x_in rfl rfl rfl ?_
        refine x_cV rfl rfl rfl rfl ⟨rfl, (Nat.le_of_ble_eq_true rfl), (Nat.le_of_ble_eq_true rfl)⟩ (x_enter (Nat.le_of_ble_eq_true rfl) ?_)
        refine x_in rfl rfl rfl ?_
        refine x_in rfl rfl rfl ?_
        refine x_top (show _ = Value.int ((0 : Int32)) from congrArg Value.int (by decide)) ?_
        refine x_in rfl rfl rfl ?_
        refine x_top (show _ = Value.int ((4 : Int32)) from congrArg Value.int (by decide)) ?_
        refine x_cS rfl (by decide) rfl rfl ⟨(Nat.le_of_ble_eq_true rfl), (Nat.le_of_ble_eq_true rfl)⟩ (x_enter (Nat.le_of_ble_eq_true rfl) ?_)
        refine x_in rfl rfl rfl ?_
        refine x_in rfl rfl rfl ?_
        refine x_bF rfl rfl (mt (z_1 (0) (by decide)).mp (by omega)) ?_
        refine x_in rfl rfl rfl ?_
        refine x_in rfl rfl rfl ?_
        refine x_bF rfl rfl (mt (z_2 (4) (by decide)).mp (by omega)) ?_
        refine x_in rfl rfl rfl ?_
        refine x_top (show _ = Value.int ((1 : Int32)) from congrArg Value.int (by decide)) ?_
        refine x_in rfl rfl rfl ?_
        refine x_ret rfl rfl ?_
        refine x_in rfl rfl rfl ?_
        refine x_in rfl rfl rfl ?_
        refine x_in rfl rfl rfl ?_
        refine x_top (show _ = Value.int ((-1 : Int32)) from congrArg Value.int (by decide)) ?_
        refine x_bF rfl rfl (mt (z_4 (-1) (by decide)).mp (by omega)) ?_
        refine x_in rfl rfl rfl ?_
        refine x_top (show _ = Value.int ((-1 : Int32)) from congrArg Value.int (by decide)) ?_
        refine x_ret rfl rfl ?_
        refine x_in rfl rfl rfl ?_
        refine x_iinc (z := (6 : Int32)) rfl rfl (by decide) ?_
        refine x_in rfl rfl rfl ?_
        refine x_in rfl rfl rfl ?_
        refine x_in rfl rfl rfl ?_
        refine x_in rfl rfl rfl ?_
        refine x_top (show _ = Value.int ((6 : Int32)) from rfl) ?_
        refine x_in rfl rfl rfl ?_
        refine x_top (show _ = Value.int ((6 : Int32)) from congrArg Value.int (by decide)) ?_
        refine x_in rfl rfl rfl ?_
        refine x_top (show _ = Value.int ((0 : Int32)) from congrArg Value.int (by decide)) ?_
        refine x_in rfl rfl rfl ?_
        refine x_in rfl rfl rfl ?_
        refine x_top (show _ = Value.int ((1 : Int32)) from congrArg Value.int (by decide)) ?_
        refine x_ret rfl rfl ?_
        exact ⟨rfl, by decide, by decide⟩
set_option maxRecDepth 100000 in
set_option maxHeartbeats 4000000 in
theorem c_20_n (n : Nat) (c a1 a2 a3 a4 a5 : Int32) (ha : ¬ a1 = 0) (hb : ¬ a1.toInt = 0) : x_E (m_X [c, a1, a2, a3, a4, a5]) 60 181 193 11164 (n + 300) 936 [(3, .int 0), (2, .ref 170), (1, .ref 0), (0, .ref 1000000)] [] m_h0 lK := by
  refine x_in rfl rfl rfl ?_
  refine x_in rfl rfl rfl ?_
  refine x_in rfl rfl rfl ?_
  refine x_in rfl rfl rfl ?_
  refine x_top (show _ = Value.int ((1 : Int32)) from congrArg Value.int (by decide)) ?_
  refine x_in rfl rfl rfl ?_
  refine x_top (show _ = Value.int ((1 : Int32)) from congrArg Value.int (by decide)) ?_
  refine x_in rfl rfl rfl ?_
  refine x_in rfl rfl rfl ?_
  refine x_in rfl rfl rfl ?_
  refine x_in rfl rfl rfl ?_
  refine x_top (show _ = Value.int ((2 : Int32)) from congrArg Value.int (by decide)) ?_
  refine x_in rfl rfl rfl ?_
  refine x_top (show _ = Value.int ((2 : Int32)) from congrArg Value.int (by decide)) ?_
  refine x_in rfl rfl rfl ?_
  refine x_in rfl rfl rfl ?_
  refine x_in rfl rfl rfl ?_
  refine x_in rfl rfl rfl ?_
  refine x_top (show _ = Value.int ((3 : Int32)) from congrArg Value.int (by decide)) ?_
  refine x_in rfl rfl rfl ?_
  refine x_top (show _ = Value.int ((3 : Int32)) from congrArg Value.int (by decide)) ?_
  refine x_in rfl rfl rfl ?_
  refine x_in rfl rfl rfl ?_
  refine x_in rfl rfl rfl ?_
  refine x_in rfl rfl rfl ?_
  refine x_top (show _ = Value.int ((4 : Int32)) from congrArg Value.int (by decide)) ?_
  refine x_in rfl rfl rfl ?_
  refine x_top (show _ = Value.int ((4 : Int32)) from congrArg Value.int (by decide)) ?_
  refine x_in rfl rfl rfl ?_
  refine x_in rfl rfl rfl ?_
  refine x_in rfl rfl rfl ?_
  refine x_in rfl rfl rfl ?_
  refine x_top (show _ = Value.int ((5 : Int32)) from congrArg Value.int (by decide)) ?_
  refine x_in rfl rfl rfl ?_
  refine x_top (show _ = Value.int ((5 : Int32)) from congrArg Value.int (by decide)) ?_
  refine x_in rfl rfl rfl ?_
  refine x_cV rfl rfl rfl rfl ⟨rfl, (Nat.le_of_ble_eq_true rfl), (Nat.le_of_ble_eq_true rfl)⟩ (x_enter (Nat.le_of_ble_eq_true rfl) ?_)
  refine x_in rfl rfl rfl ?_
  refine x_cS rfl (by decide) rfl rfl ⟨(Nat.le_of_ble_eq_true rfl), (Nat.le_of_ble_eq_true rfl)⟩ (x_enter (Nat.le_of_ble_eq_true rfl) ?_)
  refine x_in rfl rfl rfl ?_
  refine x_br rfl rfl (fun c1 => ?_) (fun c1 => ?_)
  · have ec1 := (z_1 (0) (by decide)).mp c1
    refine x_in rfl rfl rfl ?_
    refine x_top (show _ = Value.int ((0 : Int32)) from congrArg Value.int (by decide)) ?_
    refine x_ret rfl rfl ?_
    refine x_in rfl rfl rfl ?_
    refine x_in rfl rfl rfl ?_
    refine x_top (show _ = Value.int ((-1 : Int32)) from congrArg Value.int (by decide)) ?_
    refine x_ret rfl rfl ?_
    refine x_in rfl rfl rfl ?_
    refine x_in rfl rfl rfl ?_
    refine x_in rfl rfl rfl ?_
    refine x_in rfl rfl rfl ?_
    refine x_top (show _ = Value.int ((1 : Int32)) from congrArg Value.int (by decide)) ?_
    refine x_in rfl rfl rfl ?_
    refine x_top (show _ = Value.int ((1 : Int32)) from congrArg Value.int (by decide)) ?_
    refine x_in rfl rfl rfl ?_
    refine x_in rfl rfl rfl ?_
    refine x_in rfl rfl rfl ?_
    refine x_in rfl rfl rfl ?_
    refine x_top (show _ = Value.int ((2 : Int32)) from congrArg Value.int (by decide)) ?_
    refine x_in rfl rfl rfl ?_
    refine x_top (show _ = Value.int ((2 : Int32)) from congrArg Value.int (by decide)) ?_
    refine x_in rfl rfl rfl ?_
    refine x_in rfl rfl rfl ?_
    refine x_in rfl rfl rfl ?_
    refine x_in rfl rfl rfl ?_
    refine x_top (show _ = Value.int ((3 : Int32)) from congrArg Value.int (by decide)) ?_
    refine x_in rfl rfl rfl ?_
    refine x_top (show _ = Value.int ((3 : Int32)) from congrArg Value.int (by decide)) ?_
    refine x_in rfl rfl rfl ?_
    refine x_in rfl rfl rfl ?_
    refine x_in rfl rfl rfl ?_
    refine x_in rfl rfl rfl ?_
    refine x_top (show _ = Value.int ((4 : Int32)) from congrArg Value.int (by decide)) ?_
    refine x_in rfl rfl rfl ?_
    refine x_top (show _ = Value.int ((4 : Int32)) from congrArg Value.int (by decide)) ?_
    refine x_in rfl rfl rfl ?_
    refine x_in rfl rfl rfl ?_
    refine x_in rfl rfl rfl ?_
    refine x_in rfl rfl rfl ?_
    refine x_top (show _ = Value.int ((5 : Int32)) from congrArg Value.int (by decide)) ?_
    refine x_in rfl rfl rfl ?_
    refine x_top (show _ = Value.int ((5 : Int32)) from congrArg Value.int (by decide)) ?_
    refine x_in rfl rfl rfl ?_
    refine x_cV rfl rfl rfl rfl ⟨rfl, (Nat.le_of_ble_eq_true rfl), (Nat.le_of_ble_eq_true rfl)⟩ (x_enter (Nat.le_of_ble_eq_true rfl) ?_)
    refine x_in rfl rfl rfl ?_
    refine x_in rfl rfl rfl ?_
    refine x_top (show _ = Value.int ((0 : Int32)) from congrArg Value.int (by decide)) ?_
    refine x_in rfl rfl rfl ?_
    refine x_top (show _ = Value.int ((4 : Int32)) from congrArg Value.int (by decide)) ?_
    refine x_cS rfl (by decide) rfl rfl ⟨(Nat.le_of_ble_eq_true rfl), (Nat.le_of_ble_eq_true rfl)⟩ (x_enter (Nat.le_of_ble_eq_true rfl) ?_)
    refine x_in rfl rfl rfl ?_
    refine x_in rfl rfl rfl ?_
    refine x_bT rfl rfl ((z_1 (0) (by decide)).mpr (by omega)) ?_
    refine x_in rfl rfl rfl ?_
    refine x_top (show _ = Value.int ((0 : Int32)) from congrArg Value.int (by decide)) ?_
    refine x_ret rfl rfl ?_
    refine x_in rfl rfl rfl ?_
    refine x_in rfl rfl rfl ?_
    refine x_top (show _ = Value.int ((-1 : Int32)) from congrArg Value.int (by decide)) ?_
    refine x_ret rfl rfl ?_
    refine x_in rfl rfl rfl ?_
    refine x_iinc (z := (6 : Int32)) rfl rfl (by decide) ?_
    refine x_in rfl rfl rfl ?_
    refine x_in rfl rfl rfl ?_
    refine x_in rfl rfl rfl ?_
    refine x_in rfl rfl rfl ?_
    refine x_top (show _ = Value.int ((6 : Int32)) from rfl) ?_
    refine x_in rfl rfl rfl ?_
    refine x_top (show _ = Value.int ((6 : Int32)) from congrArg Value.int (by decide)) ?_
    refine x_in rfl rfl rfl ?_
    refine x_top (show _ = Value.int ((0 : Int32)) from congrArg Value.int (by decide)) ?_
    refine x_in rfl rfl rfl ?_
    refine x_in rfl rfl rfl ?_
    refine x_top (show _ = Value.int ((1 : Int32)) from congrArg Value.int (by decide)) ?_
    refine x_ret rfl rfl ?_
    exact ⟨rfl, by decide, by decide⟩
  · have ec1 := mt (z_1 (0) (by decide)).mpr c1
    refine x_in rfl rfl rfl ?_
    refine x_in rfl rfl rfl ?_
    refine x_top (show _ = Value.int ((5 : Int32)) from congrArg Value.int (by decide)) ?_
    refine x_br rfl rfl (fun c2 => ?_) (fun c2 => ?_)
    · have ec2 := (z_4 (5) (by decide)).mp c2
      refine x_in rfl rfl rfl ?_
      refine x_top (show _ = Value.int ((0 : Int32)) from congrArg Value.int (by decide)) ?_
      refine x_ret rfl rfl ?_
      refine x_in rfl rfl rfl ?_
      refine x_in rfl rfl rfl ?_
      refine x_top (show _ = Value.int ((-1 : Int32)) from congrArg Value.int (by decide)) ?_
      refine x_ret rfl rfl ?_
      refine x_in rfl rfl rfl ?_
      refine x_in rfl rfl rfl ?_
      refine x_in rfl rfl rfl ?_
      refine x_in rfl rfl rfl ?_
      refine x_top (show _ = Value.int ((1 : Int32)) from congrArg Value.int (by decide)) ?_
      refine x_in rfl rfl rfl ?_
      refine x_top (show _ = Value.int ((1 : Int32)) from congrArg Value.int (by decide)) ?_
      refine x_in rfl rfl rfl ?_
      refine x_in rfl rfl rfl ?_
      refine x_in rfl rfl rfl ?_
      refine x_in rfl rfl rfl ?_
      refine x_top (show _ = Value.int ((2 : Int32)) from congrArg Value.int (by decide)) ?_
      refine x_in rfl rfl rfl ?_
      refine x_top (show _ = Value.int ((2 : Int32)) from congrArg Value.int (by decide)) ?_
      refine x_in rfl rfl rfl ?_
      refine x_in rfl rfl rfl ?_
      refine x_in rfl rfl rfl ?_
      refine x_in rfl rfl rfl ?_
      refine x_top (show _ = Value.int ((3 : Int32)) from congrArg Value.int (by decide)) ?_
      refine x_in rfl rfl rfl ?_
      refine x_top (show _ = Value.int ((3 : Int32)) from congrArg Value.int (by decide)) ?_
      refine x_in rfl rfl rfl ?_
      refine x_in rfl rfl rfl ?_
      refine x_in rfl rfl rfl ?_
      refine x_in rfl rfl rfl ?_
      refine x_top (show _ = Value.int ((4 : Int32)) from congrArg Value.int (by decide)) ?_
      refine x_in rfl rfl rfl ?_
      refine x_top (show _ = Value.int ((4 : Int32)) from congrArg Value.int (by decide)) ?_
      refine x_in rfl rfl rfl ?_
      refine x_in rfl rfl rfl ?_
      refine x_in rfl rfl rfl ?_
      refine x_in rfl rfl rfl ?_
      refine x_top (show _ = Value.int ((5 : Int32)) from congrArg Value.int (by decide)) ?_
      refine x_in rfl rfl rfl ?_
      refine x_top (show _ = Value.int ((5 : Int32)) from congrArg Value.int (by decide)) ?_
      refine x_in rfl rfl rfl ?_
      refine x_cV rfl rfl rfl rfl ⟨rfl, (Nat.le_of_ble_eq_true rfl), (Nat.le_of_ble_eq_true rfl)⟩ (x_enter (Nat.le_of_ble_eq_true rfl) ?_)
      refine x_in rfl rfl rfl ?_
      refine x_in rfl rfl rfl ?_
      refine x_top (show _ = Value.int ((0 : Int32)) from congrArg Value.int (by decide)) ?_
      refine x_in rfl rfl rfl ?_
      refine x_top (show _ = Value.int ((4 : Int32)) from congrArg Value.int (by decide)) ?_
      refine x_cS rfl (by decide) rfl rfl ⟨(Nat.le_of_ble_eq_true rfl), (Nat.le_of_ble_eq_true rfl)⟩ (x_enter (Nat.le_of_ble_eq_true rfl) ?_)
      refine x_in rfl rfl rfl ?_
      refine x_in rfl rfl rfl ?_
      refine x_bF rfl rfl (mt (z_1 (0) (by decide)).mp (by omega)) ?_
      refine x_in rfl rfl rfl ?_
      refine x_in rfl rfl rfl ?_
      refine x_bT rfl rfl ((z_2 (4) (by decide)).mpr (by omega)) ?_
      refine x_in rfl rfl rfl ?_
      refine x_top (show _ = Value.int ((0 : Int32)) from congrArg Value.int (by decide)) ?_
      refine x_ret rfl rfl ?_
      refine x_in rfl rfl rfl ?_
      refine x_in rfl rfl rfl ?_
      refine x_top (show _ = Value.int ((-1 : Int32)) from congrArg Value.int (by decide)) ?_
      refine x_ret rfl rfl ?_
      refine x_in rfl rfl rfl ?_
      refine x_iinc (z := (6 : Int32)) rfl rfl (by decide) ?_
      refine x_in rfl rfl rfl ?_
      refine x_in rfl rfl rfl ?_
      refine x_in rfl rfl rfl ?_
      refine x_in rfl rfl rfl ?_
      refine x_top (show _ = Value.int ((6 : Int32)) from rfl) ?_
      refine x_in rfl rfl rfl ?_
      refine x_top (show _ = Value.int ((6 : Int32)) from congrArg Value.int (by decide)) ?_
      refine x_in rfl rfl rfl ?_
      refine x_top (show _ = Value.int ((0 : Int32)) from congrArg Value.int (by decide)) ?_
      refine x_in rfl rfl rfl ?_
      refine x_in rfl rfl rfl ?_
      refine x_top (show _ = Value.int ((1 : Int32)) from congrArg Value.int (by decide)) ?_
      refine x_ret rfl rfl ?_
      exact ⟨rfl, by decide, by decide⟩
    · have ec2 := mt (z_4 (5) (by decide)).mpr c2
      refine x_in rfl rfl rfl ?_
      refine x_top (show _ = Value.int ((1 : Int32)) from congrArg Value.int (by decide)) ?_
      refine x_in rfl rfl rfl ?_
      refine x_ret rfl rfl ?_
      refine x_in rfl rfl rfl ?_
      refine x_in rfl rfl rfl ?_
      refine x_in rfl rfl rfl ?_
      refine x_top (show _ = Value.int ((-1 : Int32)) from congrArg Value.int (by decide)) ?_
      refine x_br rfl rfl (fun c3 => ?_) (fun c3 => ?_)
      · have ec3 := (z_4 (-1) (by decide)).mp c3
        refine x_in rfl rfl rfl ?_
        refine x_cS rfl (by decide) rfl rfl ⟨(Nat.le_of_ble_eq_true rfl), (Nat.le_of_ble_eq_true rfl)⟩ (c_bc (fun v4 => ?_))
        refine x_in rfl rfl rfl ?_
        refine x_in rfl rfl rfl ?_
        refine x_in rfl rfl rfl ?_
        refine x_in rfl rfl rfl ?_
        refine x_in rfl rfl rfl ?_
        refine x_in rfl rfl rfl ?_
        refine x_bF rfl rfl (fun q => ha (by rw [z_ush0] at q; exact q)) ?_
        refine x_in rfl rfl rfl ?_
        refine x_top (show _ = Value.int ((-2 : Int32)) from congrArg Value.int (by decide)) ?_
        refine x_ret rfl rfl ?_
        refine x_in rfl rfl rfl ?_
        refine x_in rfl rfl rfl ?_
        refine x_in rfl rfl rfl ?_
        refine x_in rfl rfl rfl ?_
        refine x_top (show _ = Value.int ((1 : Int32)) from congrArg Value.int (by decide)) ?_
        refine x_in rfl rfl rfl ?_
        refine x_top (show _ = Value.int ((1 : Int32)) from congrArg Value.int (by decide)) ?_
        refine x_in rfl rfl rfl ?_
        refine x_in rfl rfl rfl ?_
        refine x_in rfl rfl rfl ?_
        refine x_in rfl rfl rfl ?_
        refine x_top (show _ = Value.int ((2 : Int32)) from congrArg Value.int (by decide)) ?_
        refine x_in rfl rfl rfl ?_
        refine x_top (show _ = Value.int ((2 : Int32)) from congrArg Value.int (by decide)) ?_
        refine x_in rfl rfl rfl ?_
        refine x_in rfl rfl rfl ?_
        refine x_in rfl rfl rfl ?_
        refine x_in rfl rfl rfl ?_
        refine x_top (show _ = Value.int ((3 : Int32)) from congrArg Value.int (by decide)) ?_
        refine x_in rfl rfl rfl ?_
        refine x_top (show _ = Value.int ((3 : Int32)) from congrArg Value.int (by decide)) ?_
        refine x_in rfl rfl rfl ?_
        refine x_in rfl rfl rfl ?_
        refine x_in rfl rfl rfl ?_
        refine x_in rfl rfl rfl ?_
        refine x_top (show _ = Value.int ((4 : Int32)) from congrArg Value.int (by decide)) ?_
        refine x_in rfl rfl rfl ?_
        refine x_top (show _ = Value.int ((4 : Int32)) from congrArg Value.int (by decide)) ?_
        refine x_in rfl rfl rfl ?_
        refine x_in rfl rfl rfl ?_
        refine x_in rfl rfl rfl ?_
        refine x_in rfl rfl rfl ?_
        refine x_top (show _ = Value.int ((5 : Int32)) from congrArg Value.int (by decide)) ?_
        refine x_in rfl rfl rfl ?_
        refine x_top (show _ = Value.int ((5 : Int32)) from congrArg Value.int (by decide)) ?_
        refine x_in rfl rfl rfl ?_
        refine x_cV rfl rfl rfl rfl ⟨rfl, (Nat.le_of_ble_eq_true rfl), (Nat.le_of_ble_eq_true rfl)⟩ (x_enter (Nat.le_of_ble_eq_true rfl) ?_)
        refine x_in rfl rfl rfl ?_
        refine x_in rfl rfl rfl ?_
        refine x_top (show _ = Value.int ((0 : Int32)) from congrArg Value.int (by decide)) ?_
        refine x_in rfl rfl rfl ?_
        refine x_top (show _ = Value.int ((4 : Int32)) from congrArg Value.int (by decide)) ?_
        refine x_cS rfl (by decide) rfl rfl ⟨(Nat.le_of_ble_eq_true rfl), (Nat.le_of_ble_eq_true rfl)⟩ (x_enter (Nat.le_of_ble_eq_true rfl) ?_)
        refine x_in rfl rfl rfl ?_
        refine x_in rfl rfl rfl ?_
        refine x_bF rfl rfl (mt (z_1 (0) (by decide)).mp (by omega)) ?_
        refine x_in rfl rfl rfl ?_
        refine x_in rfl rfl rfl ?_
        refine x_bF rfl rfl (mt (z_2 (4) (by decide)).mp (by omega)) ?_
        refine x_in rfl rfl rfl ?_
        refine x_top (show _ = Value.int ((1 : Int32)) from congrArg Value.int (by decide)) ?_
        refine x_in rfl rfl rfl ?_
        refine x_ret rfl rfl ?_
        refine x_in rfl rfl rfl ?_
        refine x_in rfl rfl rfl ?_
        refine x_in rfl rfl rfl ?_
        refine x_top (show _ = Value.int ((-1 : Int32)) from congrArg Value.int (by decide)) ?_
        refine x_bT rfl rfl ((z_4 (-1) (by decide)).mpr (by omega)) ?_
        refine x_in rfl rfl rfl ?_
        refine x_in rfl rfl rfl ?_
        refine x_top (show _ = Value.int ((0 : Int32)) from congrArg Value.int (by decide)) ?_
        refine x_in rfl rfl rfl ?_
        refine x_top (show _ = Value.int ((1 : Int32)) from congrArg Value.int (by decide)) ?_
        refine x_in rfl rfl rfl ?_
        refine x_in rfl rfl rfl ?_
        refine x_in rfl rfl rfl ?_
        refine x_top (show _ = Value.int ((1 : Int32)) from congrArg Value.int (by decide)) ?_
        refine x_in rfl rfl rfl ?_
        refine x_in rfl rfl rfl ?_
        refine x_top (show _ = Value.int ((1 : Int32)) from congrArg Value.int (by decide)) ?_
        refine x_in rfl rfl rfl ?_
        refine x_top (show _ = Value.int ((1 : Int32)) from congrArg Value.int (by decide)) ?_
        refine x_in rfl rfl rfl ?_
        refine x_top (show _ = Value.int ((0 : Int32)) from congrArg Value.int (by decide)) ?_
        refine x_cS rfl (by decide) rfl rfl ⟨(Nat.le_of_ble_eq_true rfl), (Nat.le_of_ble_eq_true rfl)⟩ (x_enter (Nat.le_of_ble_eq_true rfl) ?_)
        refine x_in rfl rfl rfl ?_
        refine x_in rfl rfl rfl ?_
        refine x_br rfl rfl (fun c5 => ?_) (fun c5 => ?_)
        · have ec5 := (z_1 (0) (by decide)).mp c5
          refine x_in rfl rfl rfl ?_
          refine x_top (show _ = Value.int ((0 : Int32)) from congrArg Value.int (by decide)) ?_
          refine x_ret rfl rfl ?_
          refine x_in rfl rfl rfl ?_
          refine x_in rfl rfl rfl ?_
          refine x_top (show _ = Value.int ((-2 : Int32)) from congrArg Value.int (by decide)) ?_
          refine x_ret rfl rfl ?_
          refine x_in rfl rfl rfl ?_
          refine x_iinc (z := (6 : Int32)) rfl rfl (by decide) ?_
          refine x_in rfl rfl rfl ?_
          refine x_in rfl rfl rfl ?_
          refine x_in rfl rfl rfl ?_
          refine x_in rfl rfl rfl ?_
          refine x_top (show _ = Value.int ((6 : Int32)) from rfl) ?_
          refine x_in rfl rfl rfl ?_
          refine x_top (show _ = Value.int ((6 : Int32)) from congrArg Value.int (by decide)) ?_
          refine x_in rfl rfl rfl ?_
          refine x_top (show _ = Value.int ((0 : Int32)) from congrArg Value.int (by decide)) ?_
          refine x_in rfl rfl rfl ?_
          refine x_in rfl rfl rfl ?_
          refine x_top (show _ = Value.int ((1 : Int32)) from congrArg Value.int (by decide)) ?_
          refine x_ret rfl rfl ?_
          exact ⟨rfl, by decide, by decide⟩
        · have ec5 := mt (z_1 (0) (by decide)).mpr c5
          refine x_in rfl rfl rfl ?_
          refine x_in rfl rfl rfl ?_
          refine x_br rfl rfl (fun c6 => ?_) (fun c6 => ?_)
          · have ec6 := (z_2 (0) (by decide)).mp c6
            refine x_in rfl rfl rfl ?_
            refine x_top (show _ = Value.int ((0 : Int32)) from congrArg Value.int (by decide)) ?_
            refine x_ret rfl rfl ?_
            refine x_in rfl rfl rfl ?_
            refine x_in rfl rfl rfl ?_
            refine x_top (show _ = Value.int ((-2 : Int32)) from congrArg Value.int (by decide)) ?_
            refine x_ret rfl rfl ?_
            refine x_in rfl rfl rfl ?_
            refine x_iinc (z := (6 : Int32)) rfl rfl (by decide) ?_
            refine x_in rfl rfl rfl ?_
            refine x_in rfl rfl rfl ?_
            refine x_in rfl rfl rfl ?_
            refine x_in rfl rfl rfl ?_
            refine x_top (show _ = Value.int ((6 : Int32)) from rfl) ?_
            refine x_in rfl rfl rfl ?_
            refine x_top (show _ = Value.int ((6 : Int32)) from congrArg Value.int (by decide)) ?_
            refine x_in rfl rfl rfl ?_
            refine x_top (show _ = Value.int ((0 : Int32)) from congrArg Value.int (by decide)) ?_
            refine x_in rfl rfl rfl ?_
            refine x_in rfl rfl rfl ?_
            refine x_top (show _ = Value.int ((1 : Int32)) from congrArg Value.int (by decide)) ?_
            refine x_ret rfl rfl ?_
            exact ⟨rfl, by decide, by decide⟩
          · have ec6 := mt (z_2 (0) (by decide)).mpr c6
            exfalso
            omega
      · have ec3 := mt (z_4 (-1) (by decide)).mpr c3
        refine x_in rfl rfl rfl ?_
        refine x_top (show _ = Value.int ((-1 : Int32)) from congrArg Value.int (by decide)) ?_
        refine x_ret rfl rfl ?_
        refine x_in rfl rfl rfl ?_
        refine x_in rfl rfl rfl ?_
        refine x_in rfl rfl rfl ?_
        refine x_in rfl rfl rfl ?_
        refine x_top (show _ = Value.int ((1 : Int32)) from congrArg Value.int (by decide)) ?_
        refine x_in rfl rfl rfl ?_
        refine x_top (show _ = Value.int ((1 : Int32)) from congrArg Value.int (by decide)) ?_
        refine x_in rfl rfl rfl ?_
        refine x_in rfl rfl rfl ?_
        refine x_in rfl rfl rfl ?_
        refine x_in rfl rfl rfl ?_
        refine x_top (show _ = Value.int ((2 : Int32)) from congrArg Value.int (by decide)) ?_
        refine x_in rfl rfl rfl ?_
        refine x_top (show _ = Value.int ((2 : Int32)) from congrArg Value.int (by decide)) ?_
        refine x_in rfl rfl rfl ?_
        refine x_in rfl rfl rfl ?_
        refine x_in rfl rfl rfl ?_
        refine x_in rfl rfl rfl ?_
        refine x_top (show _ = Value.int ((3 : Int32)) from congrArg Value.int (by decide)) ?_
        refine x_in rfl rfl rfl ?_
        refine x_top (show _ = Value.int ((3 : Int32)) from congrArg Value.int (by decide)) ?_
        refine x_in rfl rfl rfl ?_
        refine x_in rfl rfl rfl ?_
        refine x_in rfl rfl rfl ?_
        refine x_in rfl rfl rfl ?_
        refine x_top (show _ = Value.int ((4 : Int32)) from congrArg Value.int (by decide)) ?_
        refine x_in rfl rfl rfl ?_
        refine x_top (show _ = Value.int ((4 : Int32)) from congrArg Value.int (by decide)) ?_
        refine x_in rfl rfl rfl ?_
        refine x_in rfl rfl rfl ?_
        refine x_in rfl rfl rfl ?_
        refine x_in rfl rfl rfl ?_
        refine x_top (show _ = Value.int ((5 : Int32)) from congrArg Value.int (by decide)) ?_
        refine x_in rfl rfl rfl ?_
        refine x_top (show _ = Value.int ((5 : Int32)) from congrArg Value.int (by decide)) ?_
        refine x_in rfl rfl rfl ?_
        refine x_cV rfl rfl rfl rfl ⟨rfl, (Nat.le_of_ble_eq_true rfl), (Nat.le_of_ble_eq_true rfl)⟩ (x_enter (Nat.le_of_ble_eq_true rfl) ?_)
        refine x_in rfl rfl rfl ?_
        refine x_in rfl rfl rfl ?_
        refine x_top (show _ = Value.int ((0 : Int32)) from congrArg Value.int (by decide)) ?_
        refine x_in rfl rfl rfl ?_
        refine x_top (show _ = Value.int ((4 : Int32)) from congrArg Value.int (by decide)) ?_
        refine x_cS rfl (by decide) rfl rfl ⟨(Nat.le_of_ble_eq_true rfl), (Nat.le_of_ble_eq_true rfl)⟩ (x_enter (Nat.le_of_ble_eq_true rfl) ?_)
        refine x_in rfl rfl rfl ?_
        refine x_in rfl rfl rfl ?_
        refine x_bF rfl rfl (mt (z_1 (0) (by decide)).mp (by omega)) ?_
        refine x_in rfl rfl rfl ?_
        refine x_in rfl rfl rfl ?_
        refine x_bF rfl rfl (mt (z_2 (4) (by decide)).mp (by omega)) ?_
        refine x_in rfl rfl rfl ?_
        refine x_top (show _ = Value.int ((1 : Int32)) from congrArg Value.int (by decide)) ?_
        refine x_in rfl rfl rfl ?_
        refine x_ret rfl rfl ?_
        refine x_in rfl rfl rfl ?_
        refine x_in rfl rfl rfl ?_
        refine x_in rfl rfl rfl ?_
        refine x_top (show _ = Value.int ((-1 : Int32)) from congrArg Value.int (by decide)) ?_
        refine x_bF rfl rfl (mt (z_4 (-1) (by decide)).mp (by omega)) ?_
        refine x_in rfl rfl rfl ?_
        refine x_top (show _ = Value.int ((-1 : Int32)) from congrArg Value.int (by decide)) ?_
        refine x_ret rfl rfl ?_
        refine x_in rfl rfl rfl ?_
        refine x_iinc (z := (6 : Int32)) rfl rfl (by decide) ?_
        refine x_in rfl rfl rfl ?_
        refine x_in rfl rfl rfl ?_
        refine x_in rfl rfl rfl ?_
        refine x_in rfl rfl rfl ?_
        refine x_top (show _ = Value.int ((6 : Int32)) from rfl) ?_
        refine x_in rfl rfl rfl ?_
        refine x_top (show _ = Value.int ((6 : Int32)) from congrArg Value.int (by decide)) ?_
        refine x_in rfl rfl rfl ?_
        refine x_top (show _ = Value.int ((0 : Int32)) from congrArg Value.int (by decide)) ?_
        refine x_in rfl rfl rfl ?_
        refine x_in rfl rfl rfl ?_
        refine x_top (show _ = Value.int ((1 : Int32)) from congrArg Value.int (by decide)) ?_
        refine x_ret rfl rfl ?_
        exact ⟨rfl, by decide, by decide⟩
theorem c_20 (n : Nat) (c a1 a2 a3 a4 a5 : Int32) : x_E (m_X [c, a1, a2, a3, a4, a5]) 60 181 193 11164 (n + 300) 936 [(3, .int 0), (2, .ref 170), (1, .ref 0), (0, .ref 1000000)] [] m_h0 lK := by
  by_cases h1 : a1 = 0
  · subst h1
    exact c_20_0 n c a2 a3 a4 a5
  · exact c_20_n n c a1 a2 a3 a4 a5 h1 (mt (z_5 (0) (by decide)).mpr h1)
end
section
set_option maxRecDepth 100000 in
set_option maxHeartbeats 4000000 in
theorem c_26_0 (n : Nat) (c a2 a3 a4 a5 : Int32) : x_E (m_X [c, 0, a2, a3, a4, a5]) 60 181 193 11164 (n + 300) 1124 [(3, .int 0), (2, .ref 170), (1, .ref 0), (0, .ref 1000000)] [] m_h0 lK := by
  refine x_in rfl rfl rfl ?_
  refine x_in rfl rfl rfl ?_
  refine x_in rfl rfl rfl ?_
  refine x_in rfl rfl rfl ?_
  refine x_top (show _ = Value.int ((1 : Int32)) from congrArg Value.int (by decide)) ?_
  refine x_in rfl rfl rfl ?_
  refine x_top (show _ = Value.int ((1 : Int32)) from congrArg Value.int (by decide)) ?_
  refine x_in rfl rfl rfl ?_
  refine x_cV rfl rfl rfl rfl ⟨rfl, (Nat.le_of_ble_eq_true rfl), (Nat.le_of_ble_eq_true rfl)⟩ (x_enter (Nat.le_of_ble_eq_true rfl) ?_)
  refine x_in rfl rfl rfl ?_
  refine x_in rfl rfl rfl ?_
  refine x_in rfl rfl rfl ?_
  refine x_in rfl rfl rfl ?_
  refine x_in rfl rfl rfl ?_
  refine x_ret rfl rfl ?_
  refine x_in rfl rfl rfl ?_
  refine x_in rfl rfl rfl ?_
  refine x_in rfl rfl rfl ?_
  refine x_in rfl rfl rfl ?_
  refine x_top (show _ = Value.int ((1 : Int32)) from congrArg Value.int (by decide)) ?_
  refine x_in rfl rfl rfl ?_
  refine x_top (show _ = Value.int ((1 : Int32)) from congrArg Value.int (by decide)) ?_
  refine x_in rfl rfl rfl ?_
  refine x_cV rfl rfl rfl rfl ⟨rfl, (Nat.le_of_ble_eq_true rfl), (Nat.le_of_ble_eq_true rfl)⟩ (x_enter (Nat.le_of_ble_eq_true rfl) ?_)
  refine x_in rfl rfl rfl ?_
  refine x_in rfl rfl rfl ?_
  refine x_in rfl rfl rfl ?_
  refine x_in rfl rfl rfl ?_
  refine x_in rfl rfl rfl ?_
  refine x_top (show _ = Value.int ((0 : Int32)) from congrArg Value.int (by decide)) ?_
  refine x_in rfl rfl rfl ?_
  refine x_ret rfl rfl ?_
  refine x_in rfl rfl rfl ?_
  refine x_iinc (z := (6 : Int32)) rfl rfl (by decide) ?_
  refine x_in rfl rfl rfl ?_
  refine x_in rfl rfl rfl ?_
  refine x_in rfl rfl rfl ?_
  refine x_in rfl rfl rfl ?_
  refine x_top (show _ = Value.int ((6 : Int32)) from rfl) ?_
  refine x_in rfl rfl rfl ?_
  refine x_top (show _ = Value.int ((6 : Int32)) from congrArg Value.int (by decide)) ?_
  refine x_in rfl rfl rfl ?_
  refine x_top (show _ = Value.int ((0 : Int32)) from congrArg Value.int (by decide)) ?_
  refine x_in rfl rfl rfl ?_
  refine x_in rfl rfl rfl ?_
  refine x_top (show _ = Value.int ((1 : Int32)) from congrArg Value.int (by decide)) ?_
  refine x_ret rfl rfl ?_
  exact ⟨rfl, by decide, by decide⟩
set_option maxRecDepth 100000 in
set_option maxHeartbeats 4000000 in
theorem c_26_1 (n : Nat) (c a2 a3 a4 a5 : Int32) : x_E (m_X [c, 1, a2, a3, a4, a5]) 60 181 193 11164 (n + 300) 1124 [(3, .int 0), (2, .ref 170), (1, .ref 0), (0, .ref 1000000)] [] m_h0 lK := by
  refine x_in rfl rfl rfl ?_
  refine x_in rfl rfl rfl ?_
  refine x_in rfl rfl rfl ?_
  refine x_in rfl rfl rfl ?_
  refine x_top (show _ = Value.int ((1 : Int32)) from congrArg Value.int (by decide)) ?_
  refine x_in rfl rfl rfl ?_
  refine x_top (show _ = Value.int ((1 : Int32)) from congrArg Value.int (by decide)) ?_
  refine x_in rfl rfl rfl ?_
  refine x_cV rfl rfl rfl rfl ⟨rfl, (Nat.le_of_ble_eq_true rfl), (Nat.le_of_ble_eq_true rfl)⟩ (x_enter (Nat.le_of_ble_eq_true rfl) ?_)
  refine x_in rfl rfl rfl ?_
  refine x_in rfl rfl rfl ?_
  refine x_in rfl rfl rfl ?_
  refine x_in rfl rfl rfl ?_
  refine x_in rfl rfl rfl ?_
  refine x_ret rfl rfl ?_
  refine x_in rfl rfl rfl ?_
  refine x_in rfl rfl rfl ?_
  refine x_in rfl rfl rfl ?_
  refine x_in rfl rfl rfl ?_
  refine x_top (show _ = Value.int ((1 : Int32)) from congrArg Value.int (by decide)) ?_
  refine x_in rfl rfl rfl ?_
  refine x_top (show _ = Value.int ((1 : Int32)) from congrArg Value.int (by decide)) ?_
  refine x_in rfl rfl rfl ?_
  refine x_cV rfl rfl rfl rfl ⟨rfl, (Nat.le_of_ble_eq_true rfl), (Nat.le_of_ble_eq_true rfl)⟩ (x_enter (Nat.le_of_ble_eq_true rfl) ?_)
  refine x_in rfl rfl rfl ?_
  refine x_in rfl rfl rfl ?_
  refine x_in rfl rfl rfl ?_
  refine x_in rfl rfl rfl ?_
  refine x_in rfl rfl rfl ?_
  refine x_top (show _ = Value.int ((1 : Int32)) from congrArg Value.int (by decide)) ?_
  refine x_in rfl rfl rfl ?_
  refine x_ret rfl rfl ?_
  refine x_in rfl rfl rfl ?_
  refine x_iinc (z := (6 : Int32)) rfl rfl (by decide) ?_
  refine x_in rfl rfl rfl ?_
  refine x_in rfl rfl rfl ?_
  refine x_in rfl rfl rfl ?_
  refine x_in rfl rfl rfl ?_
  refine x_top (show _ = Value.int ((6 : Int32)) from rfl) ?_
  refine x_in rfl rfl rfl ?_
  refine x_top (show _ = Value.int ((6 : Int32)) from congrArg Value.int (by decide)) ?_
  refine x_in rfl rfl rfl ?_
  refine x_top (show _ = Value.int ((0 : Int32)) from congrArg Value.int (by decide)) ?_
  refine x_in rfl rfl rfl ?_
  refine x_in rfl rfl rfl ?_
  refine x_top (show _ = Value.int ((1 : Int32)) from congrArg Value.int (by decide)) ?_
  refine x_ret rfl rfl ?_
  exact ⟨rfl, by decide, by decide⟩
set_option maxRecDepth 100000 in
set_option maxHeartbeats 4000000 in
theorem c_26_2 (n : Nat) (c a2 a3 a4 a5 : Int32) : x_E (m_X [c, 2, a2, a3, a4, a5]) 60 181 193 11164 (n + 300) 1124 [(3, .int 0), (2, .ref 170), (1, .ref 0), (0, .ref 1000000)] [] m_h0 lK := by
  refine x_in rfl rfl rfl ?_
  refine x_in rfl rfl rfl ?_
  refine x_in rfl rfl rfl ?_
  refine x_in rfl rfl rfl ?_
  refine x_top (show _ = Value.int ((1 : Int32)) from congrArg Value.int (by decide)) ?_
  refine x_in rfl rfl rfl ?_
  refine x_top (show _ = Value.int ((1 : Int32)) from congrArg Value.int (by decide)) ?_
  refine x_in rfl rfl rfl ?_
  refine x_cV rfl rfl rfl rfl ⟨rfl, (Nat.le_of_ble_eq_true rfl), (Nat.le_of_ble_eq_true rfl)⟩ (x_enter (Nat.le_of_ble_eq_true rfl) ?_)
  refine x_in rfl rfl rfl ?_
  refine x_in rfl rfl rfl ?_
  refine x_in rfl rfl rfl ?_
  refine x_in rfl rfl rfl ?_
  refine x_in rfl rfl rfl ?_
  refine x_ret rfl rfl ?_
  refine x_in rfl rfl rfl ?_
  refine x_in rfl rfl rfl ?_
  refine x_in rfl rfl rfl ?_
  refine x_in rfl rfl rfl ?_
  refine x_top (show _ = Value.int ((1 : Int32)) from congrArg Value.int (by decide)) ?_
  refine x_in rfl rfl rfl ?_
  refine x_top (show _ = Value.int ((1 : Int32)) from congrArg Value.int (by decide)) ?_
  refine x_in rfl rfl rfl ?_
  refine x_cV rfl rfl rfl rfl ⟨rfl, (Nat.le_of_ble_eq_true rfl), (Nat.le_of_ble_eq_true rfl)⟩ (x_enter (Nat.le_of_ble_eq_true rfl) ?_)
  refine x_in rfl rfl rfl ?_
  refine x_in rfl rfl rfl ?_
  refine x_in rfl rfl rfl ?_
  refine x_in rfl rfl rfl ?_
  refine x_in rfl rfl rfl ?_
  refine x_top (show _ = Value.int ((2 : Int32)) from congrArg Value.int (by decide)) ?_
  refine x_in rfl rfl rfl ?_
  refine x_ret rfl rfl ?_
  refine x_in rfl rfl rfl ?_
  refine x_iinc (z := (6 : Int32)) rfl rfl (by decide) ?_
  refine x_in rfl rfl rfl ?_
  refine x_in rfl rfl rfl ?_
  refine x_in rfl rfl rfl ?_
  refine x_in rfl rfl rfl ?_
  refine x_top (show _ = Value.int ((6 : Int32)) from rfl) ?_
  refine x_in rfl rfl rfl ?_
  refine x_top (show _ = Value.int ((6 : Int32)) from congrArg Value.int (by decide)) ?_
  refine x_in rfl rfl rfl ?_
  refine x_top (show _ = Value.int ((0 : Int32)) from congrArg Value.int (by decide)) ?_
  refine x_in rfl rfl rfl ?_
  refine x_in rfl rfl rfl ?_
  refine x_top (show _ = Value.int ((1 : Int32)) from congrArg Value.int (by decide)) ?_
  refine x_ret rfl rfl ?_
  exact ⟨rfl, by decide, by decide⟩
set_option maxRecDepth 100000 in
set_option maxHeartbeats 4000000 in
theorem c_26_3 (n : Nat) (c a2 a3 a4 a5 : Int32) : x_E (m_X [c, 3, a2, a3, a4, a5]) 60 181 193 11164 (n + 300) 1124 [(3, .int 0), (2, .ref 170), (1, .ref 0), (0, .ref 1000000)] [] m_h0 lK := by
  refine x_in rfl rfl rfl ?_
  refine x_in rfl rfl rfl ?_
  refine x_in rfl rfl rfl ?_
  refine x_in rfl rfl rfl ?_
  refine x_top (show _ = Value.int ((1 : Int32)) from congrArg Value.int (by decide)) ?_
  refine x_in rfl rfl rfl ?_
  refine x_top (show _ = Value.int ((1 : Int32)) from congrArg Value.int (by decide)) ?_
  refine x_in rfl rfl rfl ?_
  refine x_cV rfl rfl rfl rfl ⟨rfl, (Nat.le_of_ble_eq_true rfl), (Nat.le_of_ble_eq_true rfl)⟩ (x_enter (Nat.le_of_ble_eq_true rfl) ?_)
  refine x_in rfl rfl rfl ?_
  refine x_in rfl rfl rfl ?_
  refine x_in rfl rfl rfl ?_
  refine x_in rfl rfl rfl ?_
  refine x_in rfl rfl rfl ?_
  refine x_ret rfl rfl ?_
  refine x_in rfl rfl rfl ?_
  refine x_in rfl rfl rfl ?_
  refine x_in rfl rfl rfl ?_
  refine x_in rfl rfl rfl ?_
  refine x_top (show _ = Value.int ((1 : Int32)) from congrArg Value.int (by decide)) ?_
  refine x_in rfl rfl rfl ?_
  refine x_top (show _ = Value.int ((1 : Int32)) from congrArg Value.int (by decide)) ?_
  refine x_in rfl rfl rfl ?_
  refine x_cV rfl rfl rfl rfl ⟨rfl, (Nat.le_of_ble_eq_true rfl), (Nat.le_of_ble_eq_true rfl)⟩ (x_enter (Nat.le_of_ble_eq_true rfl) ?_)
  refine x_in rfl rfl rfl ?_
  refine x_in rfl rfl rfl ?_
  refine x_in rfl rfl rfl ?_
  refine x_in rfl rfl rfl ?_
  refine x_in rfl rfl rfl ?_
  refine x_top (show _ = Value.int ((3 : Int32)) from congrArg Value.int (by decide)) ?_
  refine x_in rfl rfl rfl ?_
  refine x_ret rfl rfl ?_
  refine x_in rfl rfl rfl ?_
  refine x_iinc (z := (6 : Int32)) rfl rfl (by decide) ?_
  refine x_in rfl rfl rfl ?_
  refine x_in rfl rfl rfl ?_
  refine x_in rfl rfl rfl ?_
  refine x_in rfl rfl rfl ?_
  refine x_top (show _ = Value.int ((6 : Int32)) from rfl) ?_
  refine x_in rfl rfl rfl ?_
  refine x_top (show _ = Value.int ((6 : Int32)) from congrArg Value.int (by decide)) ?_
  refine x_in rfl rfl rfl ?_
  refine x_top (show _ = Value.int ((0 : Int32)) from congrArg Value.int (by decide)) ?_
  refine x_in rfl rfl rfl ?_
  refine x_in rfl rfl rfl ?_
  refine x_top (show _ = Value.int ((1 : Int32)) from congrArg Value.int (by decide)) ?_
  refine x_ret rfl rfl ?_
  exact ⟨rfl, by decide, by decide⟩
set_option maxRecDepth 100000 in
set_option maxHeartbeats 4000000 in
theorem c_26_4 (n : Nat) (c a2 a3 a4 a5 : Int32) : x_E (m_X [c, 4, a2, a3, a4, a5]) 60 181 193 11164 (n + 300) 1124 [(3, .int 0), (2, .ref 170), (1, .ref 0), (0, .ref 1000000)] [] m_h0 lK := by
  refine x_in rfl rfl rfl ?_
  refine x_in rfl rfl rfl ?_
  refine x_in rfl rfl rfl ?_
  refine x_in rfl rfl rfl ?_
  refine x_top (show _ = Value.int ((1 : Int32)) from congrArg Value.int (by decide)) ?_
  refine x_in rfl rfl rfl ?_
  refine x_top (show _ = Value.int ((1 : Int32)) from congrArg Value.int (by decide)) ?_
  refine x_in rfl rfl rfl ?_
  refine x_cV rfl rfl rfl rfl ⟨rfl, (Nat.le_of_ble_eq_true rfl), (Nat.le_of_ble_eq_true rfl)⟩ (x_enter (Nat.le_of_ble_eq_true rfl) ?_)
  refine x_in rfl rfl rfl ?_
  refine x_in rfl rfl rfl ?_
  refine x_in rfl rfl rfl ?_
  refine x_in rfl rfl rfl ?_
  refine x_in rfl rfl rfl ?_
  refine x_ret rfl rfl ?_
  refine x_in rfl rfl rfl ?_
  refine x_in rfl rfl rfl ?_
  refine x_in rfl rfl rfl ?_
  refine x_in rfl rfl rfl ?_
  refine x_top (show _ = Value.int ((1 : Int32)) from congrArg Value.int (by decide)) ?_
  refine x_in rfl rfl rfl ?_
  refine x_top (show _ = Value.int ((1 : Int32)) from congrArg Value.int (by decide)) ?_
  refine x_in rfl rfl rfl ?_
  refine x_cV rfl rfl rfl rfl ⟨rfl, (Nat.le_of_ble_eq_true rfl), (Nat.le_of_ble_eq_true rfl)⟩ (x_enter (Nat.le_of_ble_eq_true rfl) ?_)
  refine x_in rfl rfl rfl ?_
  refine x_in rfl rfl rfl ?_
  refine x_in rfl rfl rfl ?_
  refine x_in rfl rfl rfl ?_
  refine x_in rfl rfl rfl ?_
  refine x_top (show _ = Value.int ((4 : Int32)) from congrArg Value.int (by decide)) ?_
  refine x_in rfl rfl rfl ?_
  refine x_ret rfl rfl ?_
  refine x_in rfl rfl rfl ?_
  refine x_iinc (z := (6 : Int32)) rfl rfl (by decide) ?_
  refine x_in rfl rfl rfl ?_
  refine x_in rfl rfl rfl ?_
  refine x_in rfl rfl rfl ?_
  refine x_in rfl rfl rfl ?_
  refine x_top (show _ = Value.int ((6 : Int32)) from rfl) ?_
  refine x_in rfl rfl rfl ?_
  refine x_top (show _ = Value.int ((6 : Int32)) from congrArg Value.int (by decide)) ?_
  refine x_in rfl rfl rfl ?_
  refine x_top (show _ = Value.int ((0 : Int32)) from congrArg Value.int (by decide)) ?_
  refine x_in rfl rfl rfl ?_
  refine x_in rfl rfl rfl ?_
  refine x_top (show _ = Value.int ((1 : Int32)) from congrArg Value.int (by decide)) ?_
  refine x_ret rfl rfl ?_
  exact ⟨rfl, by decide, by decide⟩
set_option maxRecDepth 100000 in
set_option maxHeartbeats 4000000 in
theorem c_26_5 (n : Nat) (c a2 a3 a4 a5 : Int32) : x_E (m_X [c, 5, a2, a3, a4, a5]) 60 181 193 11164 (n + 300) 1124 [(3, .int 0), (2, .ref 170), (1, .ref 0), (0, .ref 1000000)] [] m_h0 lK := by
  refine x_in rfl rfl rfl ?_
  refine x_in rfl rfl rfl ?_
  refine x_in rfl rfl rfl ?_
  refine x_in rfl rfl rfl ?_
  refine x_top (show _ = Value.int ((1 : Int32)) from congrArg Value.int (by decide)) ?_
  refine x_in rfl rfl rfl ?_
  refine x_top (show _ = Value.int ((1 : Int32)) from congrArg Value.int (by decide)) ?_
  refine x_in rfl rfl rfl ?_
  refine x_cV rfl rfl rfl rfl ⟨rfl, (Nat.le_of_ble_eq_true rfl), (Nat.le_of_ble_eq_true rfl)⟩ (x_enter (Nat.le_of_ble_eq_true rfl) ?_)
  refine x_in rfl rfl rfl ?_
  refine x_in rfl rfl rfl ?_
  refine x_in rfl rfl rfl ?_
  refine x_in rfl rfl rfl ?_
  refine x_in rfl rfl rfl ?_
  refine x_ret rfl rfl ?_
  refine x_in rfl rfl rfl ?_
  refine x_in rfl rfl rfl ?_
  refine x_in rfl rfl rfl ?_
  refine x_in rfl rfl rfl ?_
  refine x_top (show _ = Value.int ((1 : Int32)) from congrArg Value.int (by decide)) ?_
  refine x_in rfl rfl rfl ?_
  refine x_top (show _ = Value.int ((1 : Int32)) from congrArg Value.int (by decide)) ?_
  refine x_in rfl rfl rfl ?_
  refine x_cV rfl rfl rfl rfl ⟨rfl, (Nat.le_of_ble_eq_true rfl), (Nat.le_of_ble_eq_true rfl)⟩ (x_enter (Nat.le_of_ble_eq_true rfl) ?_)
  refine x_in rfl rfl rfl ?_
  refine x_in rfl rfl rfl ?_
  refine x_in rfl rfl rfl ?_
  refine x_in rfl rfl rfl ?_
  refine x_in rfl rfl rfl ?_
  refine x_top (show _ = Value.int ((5 : Int32)) from congrArg Value.int (by decide)) ?_
  refine x_in rfl rfl rfl ?_
  refine x_ret rfl rfl ?_
  refine x_in rfl rfl rfl ?_
  refine x_iinc (z := (6 : Int32)) rfl rfl (by decide) ?_
  refine x_in rfl rfl rfl ?_
  refine x_in rfl rfl rfl ?_
  refine x_in rfl rfl rfl ?_
  refine x_in rfl rfl rfl ?_
  refine x_top (show _ = Value.int ((6 : Int32)) from rfl) ?_
  refine x_in rfl rfl rfl ?_
  refine x_top (show _ = Value.int ((6 : Int32)) from congrArg Value.int (by decide)) ?_
  refine x_in rfl rfl rfl ?_
  refine x_top (show _ = Value.int ((0 : Int32)) from congrArg Value.int (by decide)) ?_
  refine x_in rfl rfl rfl ?_
  refine x_in rfl rfl rfl ?_
  refine x_top (show _ = Value.int ((1 : Int32)) from congrArg Value.int (by decide)) ?_
  refine x_ret rfl rfl ?_
  exact ⟨rfl, by decide, by decide⟩
set_option maxRecDepth 100000 in
set_option maxHeartbeats 4000000 in
theorem c_26_6 (n : Nat) (c a2 a3 a4 a5 : Int32) : x_E (m_X [c, 6, a2, a3, a4, a5]) 60 181 193 11164 (n + 300) 1124 [(3, .int 0), (2, .ref 170), (1, .ref 0), (0, .ref 1000000)] [] m_h0 lK := by
  refine x_in rfl rfl rfl ?_
  refine x_in rfl rfl rfl ?_
  refine x_in rfl rfl rfl ?_
  refine x_in rfl rfl rfl ?_
  refine x_top (show _ = Value.int ((1 : Int32)) from congrArg Value.int (by decide)) ?_
  refine x_in rfl rfl rfl ?_
  refine x_top (show _ = Value.int ((1 : Int32)) from congrArg Value.int (by decide)) ?_
  refine x_in rfl rfl rfl ?_
  refine x_cV rfl rfl rfl rfl ⟨rfl, (Nat.le_of_ble_eq_true rfl), (Nat.le_of_ble_eq_true rfl)⟩ (x_enter (Nat.le_of_ble_eq_true rfl) ?_)
  refine x_in rfl rfl rfl ?_
  refine x_in rfl rfl rfl ?_
  refine x_in rfl rfl rfl ?_
  refine x_in rfl rfl rfl ?_
  refine x_in rfl rfl rfl ?_
  refine x_ret rfl rfl ?_
  refine x_in rfl rfl rfl ?_
  refine x_in rfl rfl rfl ?_
  refine x_in rfl rfl rfl ?_
  refine x_in rfl rfl rfl ?_
  refine x_top (show _ = Value.int ((1 : Int32)) from congrArg Value.int (by decide)) ?_
  refine x_in rfl rfl rfl ?_
  refine x_top (show _ = Value.int ((1 : Int32)) from congrArg Value.int (by decide)) ?_
  refine x_in rfl rfl rfl ?_
  refine x_cV rfl rfl rfl rfl ⟨rfl, (Nat.le_of_ble_eq_true rfl), (Nat.le_of_ble_eq_true rfl)⟩ (x_enter (Nat.le_of_ble_eq_true rfl) ?_)
  refine x_in rfl rfl rfl ?_
  refine x_in rfl rfl rfl ?_
  refine x_in rfl rfl rfl ?_
  refine x_in rfl rfl rfl ?_
  refine x_in rfl rfl rfl ?_
  refine x_top (show _ = Value.int ((6 : Int32)) from congrArg Value.int (by decide)) ?_
  refine x_in rfl rfl rfl ?_
  refine x_ret rfl rfl ?_
  refine x_in rfl rfl rfl ?_
  refine x_iinc (z := (6 : Int32)) rfl rfl (by decide) ?_
  refine x_in rfl rfl rfl ?_
  refine x_in rfl rfl rfl ?_
  refine x_in rfl rfl rfl ?_
  refine x_in rfl rfl rfl ?_
  refine x_top (show _ = Value.int ((6 : Int32)) from rfl) ?_
  refine x_in rfl rfl rfl ?_
  refine x_top (show _ = Value.int ((6 : Int32)) from congrArg Value.int (by decide)) ?_
  refine x_in rfl rfl rfl ?_
  refine x_top (show _ = Value.int ((0 : Int32)) from congrArg Value.int (by decide)) ?_
  refine x_in rfl rfl rfl ?_
  refine x_in rfl rfl rfl ?_
  refine x_top (show _ = Value.int ((1 : Int32)) from congrArg Value.int (by decide)) ?_
  refine x_ret rfl rfl ?_
  exact ⟨rfl, by decide, by decide⟩
set_option maxRecDepth 100000 in
set_option maxHeartbeats 4000000 in
theorem c_26_7 (n : Nat) (c a2 a3 a4 a5 : Int32) : x_E (m_X [c, 7, a2, a3, a4, a5]) 60 181 193 11164 (n + 300) 1124 [(3, .int 0), (2, .ref 170), (1, .ref 0), (0, .ref 1000000)] [] m_h0 lK := by
  refine x_in rfl rfl rfl ?_
  refine x_in rfl rfl rfl ?_
  refine x_in rfl rfl rfl ?_
  refine x_in rfl rfl rfl ?_
  refine x_top (show _ = Value.int ((1 : Int32)) from congrArg Value.int (by decide)) ?_
  refine x_in rfl rfl rfl ?_
  refine x_top (show _ = Value.int ((1 : Int32)) from congrArg Value.int (by decide)) ?_
  refine x_in rfl rfl rfl ?_
  refine x_cV rfl rfl rfl rfl ⟨rfl, (Nat.le_of_ble_eq_true rfl), (Nat.le_of_ble_eq_true rfl)⟩ (x_enter (Nat.le_of_ble_eq_true rfl) ?_)
  refine x_in rfl rfl rfl ?_
  refine x_in rfl rfl rfl ?_
  refine x_in rfl rfl rfl ?_
  refine x_in rfl rfl rfl ?_
  refine x_in rfl rfl rfl ?_
  refine x_in rfl rfl rfl ?_
  refine x_ret rfl rfl ?_
  refine x_in rfl rfl rfl ?_
  refine x_in rfl rfl rfl ?_
  refine x_in rfl rfl rfl ?_
  refine x_in rfl rfl rfl ?_
  refine x_top (show _ = Value.int ((1 : Int32)) from congrArg Value.int (by decide)) ?_
  refine x_in rfl rfl rfl ?_
  refine x_top (show _ = Value.int ((1 : Int32)) from congrArg Value.int (by decide)) ?_
  refine x_in rfl rfl rfl ?_
  refine x_cV rfl rfl rfl rfl ⟨rfl, (Nat.le_of_ble_eq_true rfl), (Nat.le_of_ble_eq_true rfl)⟩ (x_enter (Nat.le_of_ble_eq_true rfl) ?_)
  refine x_in rfl rfl rfl ?_
  refine x_in rfl rfl rfl ?_
  refine x_in rfl rfl rfl ?_
  refine x_in rfl rfl rfl ?_
  refine x_ret rfl rfl ?_
  refine x_in rfl rfl rfl ?_
  refine x_iinc (z := (6 : Int32)) rfl rfl (by decide) ?_
  refine x_in rfl rfl rfl ?_
  refine x_in rfl rfl rfl ?_
  refine x_in rfl rfl rfl ?_
  refine x_in rfl rfl rfl ?_
  refine x_top (show _ = Value.int ((6 : Int32)) from rfl) ?_
  refine x_in rfl rfl rfl ?_
  refine x_top (show _ = Value.int ((6 : Int32)) from congrArg Value.int (by decide)) ?_
  refine x_in rfl rfl rfl ?_
  refine x_top (show _ = Value.int ((0 : Int32)) from congrArg Value.int (by decide)) ?_
  refine x_in rfl rfl rfl ?_
  refine x_in rfl rfl rfl ?_
  refine x_top (show _ = Value.int ((1 : Int32)) from congrArg Value.int (by decide)) ?_
  refine x_ret rfl rfl ?_
  exact ⟨rfl, by decide, by decide⟩
set_option maxRecDepth 100000 in
set_option maxHeartbeats 4000000 in
theorem c_26_lo (n : Nat) (c a1 a2 a3 a4 a5 : Int32) (hb : a1.toInt ≤ -1) : x_E (m_X [c, a1, a2, a3, a4, a5]) 60 181 193 11164 (n + 300) 1124 [(3, .int 0), (2, .ref 170), (1, .ref 0), (0, .ref 1000000)] [] m_h0 lK := by
  refine x_in rfl rfl rfl ?_
  refine x_in rfl rfl rfl ?_
  refine x_in rfl rfl rfl ?_
  refine x_in rfl rfl rfl ?_
  refine x_top (show _ = Value.int ((1 : Int32)) from congrArg Value.int (by decide)) ?_
  refine x_in rfl rfl rfl ?_
  refine x_top (show _ = Value.int ((1 : Int32)) from congrArg Value.int (by decide)) ?_
  refine x_in rfl rfl rfl ?_
  refine x_cV rfl rfl rfl rfl ⟨rfl, (Nat.le_of_ble_eq_true rfl), (Nat.le_of_ble_eq_true rfl)⟩ (x_enter (Nat.le_of_ble_eq_true rfl) ?_)
  refine x_in rfl rfl rfl ?_
  refine x_swD rfl (by omega) rfl ?_
  refine x_in rfl rfl rfl ?_
  refine x_top (show _ = Value.int ((-1 : Int32)) from congrArg Value.int (by decide)) ?_
  refine x_ret rfl rfl ?_
  refine x_in rfl rfl rfl ?_
  refine x_in rfl rfl rfl ?_
  refine x_in rfl rfl rfl ?_
  refine x_in rfl rfl rfl ?_
  refine x_top (show _ = Value.int ((1 : Int32)) from congrArg Value.int (by decide)) ?_
  refine x_in rfl rfl rfl ?_
  refine x_top (show _ = Value.int ((1 : Int32)) from congrArg Value.int (by decide)) ?_
  refine x_in rfl rfl rfl ?_
  refine x_cV rfl rfl rfl rfl ⟨rfl, (Nat.le_of_ble_eq_true rfl), (Nat.le_of_ble_eq_true rfl)⟩ (x_enter (Nat.le_of_ble_eq_true rfl) ?_)
  refine x_in rfl rfl rfl ?_
  refine x_swD rfl (by omega) rfl ?_
  refine x_in rfl rfl rfl ?_
  refine x_top (show _ = Value.int ((-1 : Int32)) from congrArg Value.int (by decide)) ?_
  refine x_ret rfl rfl ?_
  refine x_in rfl rfl rfl ?_
  refine x_iinc (z := (6 : Int32)) rfl rfl (by decide) ?_
  refine x_in rfl rfl rfl ?_
  refine x_in rfl rfl rfl ?_
  refine x_in rfl rfl rfl ?_
  refine x_in rfl rfl rfl ?_
  refine x_top (show _ = Value.int ((6 : Int32)) from rfl) ?_
  refine x_in rfl rfl rfl ?_
  refine x_top (show _ = Value.int ((6 : Int32)) from congrArg Value.int (by decide)) ?_
  refine x_in rfl rfl rfl ?_
  refine x_top (show _ = Value.int ((0 : Int32)) from congrArg Value.int (by decide)) ?_
  refine x_in rfl rfl rfl ?_
  refine x_in rfl rfl rfl ?_
  refine x_top (show _ = Value.int ((1 : Int32)) from congrArg Value.int (by decide)) ?_
  refine x_ret rfl rfl ?_
  exact ⟨rfl, by decide, by decide⟩
set_option maxRecDepth 100000 in
set_option maxHeartbeats 4000000 in
theorem c_26_hi (n : Nat) (c a1 a2 a3 a4 a5 : Int32) (hb : 8 ≤ a1.toInt) : x_E (m_X [c, a1, a2, a3, a4, a5]) 60 181 193 11164 (n + 300) 1124 [(3, .int 0), (2, .ref 170), (1, .ref 0), (0, .ref 1000000)] [] m_h0 lK := by
  refine x_in rfl rfl rfl ?_
  refine x_in rfl rfl rfl ?_
  refine x_in rfl rfl rfl ?_
  refine x_in rfl rfl rfl ?_
  refine x_top (show _ = Value.int ((1 : Int32)) from congrArg Value.int (by decide)) ?_
  refine x_in rfl rfl rfl ?_
  refine x_top (show _ = Value.int ((1 : Int32)) from congrArg Value.int (by decide)) ?_
  refine x_in rfl rfl rfl ?_
  refine x_cV rfl rfl rfl rfl ⟨rfl, (Nat.le_of_ble_eq_true rfl), (Nat.le_of_ble_eq_true rfl)⟩ (x_enter (Nat.le_of_ble_eq_true rfl) ?_)
  refine x_in rfl rfl rfl ?_
  refine x_swD rfl (by omega) rfl ?_
  refine x_in rfl rfl rfl ?_
  refine x_top (show _ = Value.int ((-1 : Int32)) from congrArg Value.int (by decide)) ?_
  refine x_ret rfl rfl ?_
  refine x_in rfl rfl rfl ?_
  refine x_in rfl rfl rfl ?_
  refine x_in rfl rfl rfl ?_
  refine x_in rfl rfl rfl ?_
  refine x_top (show _ = Value.int ((1 : Int32)) from congrArg Value.int (by decide)) ?_
  refine x_in rfl rfl rfl ?_
  refine x_top (show _ = Value.int ((1 : Int32)) from congrArg Value.int (by decide)) ?_
  refine x_in rfl rfl rfl ?_
  refine x_cV rfl rfl rfl rfl ⟨rfl, (Nat.le_of_ble_eq_true rfl), (Nat.le_of_ble_eq_true rfl)⟩ (x_enter (Nat.le_of_ble_eq_true rfl) ?_)
  refine x_in rfl rfl rfl ?_
  refine x_swD rfl (by omega) rfl ?_
  refine x_in rfl rfl rfl ?_
  refine x_top (show _ = Value.int ((-1 : Int32)) from congrArg Value.int (by decide)) ?_
  refine x_ret rfl rfl ?_
  refine x_in rfl rfl rfl ?_
  refine x_iinc (z := (6 : Int32)) rfl rfl (by decide) ?_
  refine x_in rfl rfl rfl ?_
  refine x_in rfl rfl rfl ?_
  refine x_in rfl rfl rfl ?_
  refine x_in rfl rfl rfl ?_
  refine x_top (show _ = Value.int ((6 : Int32)) from rfl) ?_
  refine x_in rfl rfl rfl ?_
  refine x_top (show _ = Value.int ((6 : Int32)) from congrArg Value.int (by decide)) ?_
  refine x_in rfl rfl rfl ?_
  refine x_top (show _ = Value.int ((0 : Int32)) from congrArg Value.int (by decide)) ?_
  refine x_in rfl rfl rfl ?_
  refine x_in rfl rfl rfl ?_
  refine x_top (show _ = Value.int ((1 : Int32)) from congrArg Value.int (by decide)) ?_
  refine x_ret rfl rfl ?_
  exact ⟨rfl, by decide, by decide⟩
theorem c_26 (n : Nat) (c a1 a2 a3 a4 a5 : Int32) : x_E (m_X [c, a1, a2, a3, a4, a5]) 60 181 193 11164 (n + 300) 1124 [(3, .int 0), (2, .ref 170), (1, .ref 0), (0, .ref 1000000)] [] m_h0 lK := by
  by_cases h1 : a1.toInt ≤ -1
  · exact c_26_lo n c a1 a2 a3 a4 a5 h1
  by_cases h2 : 8 ≤ a1.toInt
  · exact c_26_hi n c a1 a2 a3 a4 a5 h2
  have h3 : a1.toInt = 0 ∨ a1.toInt = 1 ∨ a1.toInt = 2 ∨ a1.toInt = 3 ∨ a1.toInt = 4 ∨ a1.toInt = 5 ∨ a1.toInt = 6 ∨ a1.toInt = 7 := by omega
  rcases h3 with h3 | h3 | h3 | h3 | h3 | h3 | h3 | h3
  · obtain rfl : a1 = 0 := (z_5 (0) (by decide)).mpr h3
    exact c_26_0 n c a2 a3 a4 a5
  · obtain rfl : a1 = 1 := (z_5 (1) (by decide)).mpr h3
    exact c_26_1 n c a2 a3 a4 a5
  · obtain rfl : a1 = 2 := (z_5 (2) (by decide)).mpr h3
    exact c_26_2 n c a2 a3 a4 a5
  · obtain rfl : a1 = 3 := (z_5 (3) (by decide)).mpr h3
    exact c_26_3 n c a2 a3 a4 a5
  · obtain rfl : a1 = 4 := (z_5 (4) (by decide)).mpr h3
    exact c_26_4 n c a2 a3 a4 a5
  · obtain rfl : a1 = 5 := (z_5 (5) (by decide)).mpr h3
    exact c_26_5 n c a2 a3 a4 a5
  · obtain rfl : a1 = 6 := (z_5 (6) (by decide)).mpr h3
    exact c_26_6 n c a2 a3 a4 a5
  · obtain rfl : a1 = 7 := (z_5 (7) (by decide)).mpr h3
    exact c_26_7 n c a2 a3 a4 a5
set_option maxRecDepth 100000 in
set_option maxHeartbeats 4000000 in
theorem c_d (n : Nat) (c a1 a2 a3 a4 a5 : Int32) : x_E (m_X [c, a1, a2, a3, a4, a5]) 60 181 193 11164 (n + 300) 1147 [(3, .int 0), (2, .ref 170), (1, .ref 0), (0, .ref 1000000)] [] m_h0 lK := by
  refine x_iinc (z := (6 : Int32)) rfl rfl (by decide) ?_
  refine x_in rfl rfl rfl ?_
  refine x_in rfl rfl rfl ?_
  refine x_in rfl rfl rfl ?_
  refine x_in rfl rfl rfl ?_
  refine x_top (show _ = Value.int ((6 : Int32)) from rfl) ?_
  refine x_in rfl rfl rfl ?_
  refine x_top (show _ = Value.int ((6 : Int32)) from congrArg Value.int (by decide)) ?_
  refine x_in rfl rfl rfl ?_
  refine x_top (show _ = Value.int ((0 : Int32)) from congrArg Value.int (by decide)) ?_
  refine x_in rfl rfl rfl ?_
  refine x_in rfl rfl rfl ?_
  refine x_top (show _ = Value.int ((1 : Int32)) from congrArg Value.int (by decide)) ?_
  refine x_ret rfl rfl ?_
  exact ⟨rfl, by decide, by decide⟩
end
section
/-! calls that were computed: text(), image() of two fresh objects -/
theorem x_opt {o : Option m_R} {v : Option Value} (h : o.map (fun r => r.1) = some v) : o = some (v, (o.getD (none, [])).2) := by
  cases o with
  | none => cases h
  | some r => cases h; rfl
def m_tX : m_H := ((m_run m_X0 60 71 [.ref 0] m_h0).getD (none, [])).2
set_option maxRecDepth 100000 in
theorem x_tX : m_run m_X0 60 71 [.ref 0] m_h0 = some (some (.int (-10)), m_tX) := x_opt (by decide +kernel)
set_option maxRecDepth 100000 in
theorem x_tXb : m_tX.length ≤ 1000 ∧ m_sz m_tX ≤ 200000 := by decide +kernel
def m_tM : m_H := ((m_run m_X0 60 124 [.ref 170] m_tX).getD (none, [])).2
set_option maxRecDepth 100000 in
theorem x_tM : m_run m_X0 60 124 [.ref 170] m_tX = some (some (.int (-10)), m_tM) := x_opt (by decide +kernel)
set_option maxRecDepth 100000 in
theorem x_tMb : m_tM.length ≤ 1000 ∧ m_sz m_tM ≤ 200000 := by decide +kernel
set_option maxRecDepth 100000 in
set_option maxHeartbeats 4000000 in
theorem c_1 (n : Nat) (c a1 a2 a3 a4 a5 : Int32) : x_E (m_X [c, a1, a2, a3, a4, a5]) 60 181 193 11164 (n + 300) 219 [(3, .int 0), (2, .ref 170), (1, .ref 0), (0, .ref 1000000)] [] m_h0 lK := by
  refine x_in rfl rfl rfl ?_
  refine x_cV rfl rfl rfl rfl ⟨rfl, (Nat.le_of_ble_eq_true rfl), (Nat.le_of_ble_eq_true rfl)⟩ (x_done (x_run0 _ _ _ _ _ x_tX) (fun _ _ => x_tXb) ?_)
  refine x_in rfl rfl rfl ?_
  refine x_cV rfl rfl rfl rfl ⟨rfl, (Nat.le_of_ble_eq_true rfl), (Nat.le_of_ble_eq_true rfl)⟩ (x_done (x_run0 _ _ _ _ _ x_tM) (fun _ _ => x_tMb) ?_)
  refine x_in rfl rfl rfl ?_
  refine x_iinc (z := (6 : Int32)) rfl rfl (by decide) ?_
  refine x_in rfl rfl rfl ?_
  refine x_in rfl rfl rfl ?_
  refine x_in rfl rfl rfl ?_
  refine x_in rfl rfl rfl ?_
  refine x_top (show _ = Value.int ((6 : Int32)) from rfl) ?_
  refine x_in rfl rfl rfl ?_
  refine x_top (show _ = Value.int ((6 : Int32)) from congrArg Value.int (by decide)) ?_
  refine x_in rfl rfl rfl ?_
  refine x_top (show _ = Value.int ((0 : Int32)) from congrArg Value.int (by decide)) ?_
  refine x_in rfl rfl rfl ?_
  refine x_in rfl rfl rfl ?_
  refine x_top (show _ = Value.int ((1 : Int32)) from congrArg Value.int (by decide)) ?_
  refine x_ret rfl rfl ?_
  exact ⟨rfl, by decide, by decide⟩
end
