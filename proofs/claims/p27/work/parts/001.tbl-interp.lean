section
-- ===== PART A: goes FIRST, ahead of the names: the tables' words, and 'selects' of the private methods out of them =====
/-- a private method of a class that the tables say can be made, by its rows of tables_1 -/
def lw_okq (q : MethodName × Nat) : Prop := (q.1.cls ≠ "java/lang/invoke/MethodHandle" ∧ q.1.cls ≠ "java/lang/invoke/VarHandle") ∧ Cond.instantiable q.1.cls q.2 ∈ tables_1 ∧ Cond.privateMethod q.1 ∈ tables_1 ∧ Cond.instanceMethod q.1 ∈ tables_1
theorem lw_p0 : lw_okq (⟨"WayBoxes$Reader", "readsKind", "(I)Z"⟩, 4) := ⟨⟨by decide +kernel, by decide +kernel⟩, List.mem_of_getElem? (i := 170) (by decide +kernel), List.mem_of_getElem? (i := 338) (by decide +kernel), List.mem_of_getElem? (i := 339) (by decide +kernel)⟩
theorem lw_p1 : lw_okq (⟨"WayBoxes$Reader", "takes", "(I)Z"⟩, 4) := ⟨⟨by decide +kernel, by decide +kernel⟩, List.mem_of_getElem? (i := 170) (by decide +kernel), List.mem_of_getElem? (i := 342) (by decide +kernel), List.mem_of_getElem? (i := 343) (by decide +kernel)⟩
theorem lw_p2 : lw_okq (⟨"WayBoxes$Reader", "takesDigit", "(I)I"⟩, 4) := ⟨⟨by decide +kernel, by decide +kernel⟩, List.mem_of_getElem? (i := 170) (by decide +kernel), List.mem_of_getElem? (i := 346) (by decide +kernel), List.mem_of_getElem? (i := 347) (by decide +kernel)⟩
theorem lw_p3 : lw_okq (⟨"WayBoxes$Reader", "readsE", "(I)Z"⟩, 4) := ⟨⟨by decide +kernel, by decide +kernel⟩, List.mem_of_getElem? (i := 170) (by decide +kernel), List.mem_of_getElem? (i := 350) (by decide +kernel), List.mem_of_getElem? (i := 351) (by decide +kernel)⟩
theorem lw_p4 : lw_okq (⟨"WayBoxes$Reader", "readsT", "(I)Z"⟩, 4) := ⟨⟨by decide +kernel, by decide +kernel⟩, List.mem_of_getElem? (i := 170) (by decide +kernel), List.mem_of_getElem? (i := 354) (by decide +kernel), List.mem_of_getElem? (i := 355) (by decide +kernel)⟩
theorem lw_p5 : lw_okq (⟨"WayBoxes$Reader", "readsF", "(I)Z"⟩, 4) := ⟨⟨by decide +kernel, by decide +kernel⟩, List.mem_of_getElem? (i := 170) (by decide +kernel), List.mem_of_getElem? (i := 358) (by decide +kernel), List.mem_of_getElem? (i := 359) (by decide +kernel)⟩
theorem lw_p6 : lw_okq (⟨"WayBoxes$Reader", "next", "()I"⟩, 4) := ⟨⟨by decide +kernel, by decide +kernel⟩, List.mem_of_getElem? (i := 170) (by decide +kernel), List.mem_of_getElem? (i := 362) (by decide +kernel), List.mem_of_getElem? (i := 363) (by decide +kernel)⟩
theorem lw_p7 : lw_okq (⟨"WayBoxes$Reader", "readsTest", "()Z"⟩, 4) := ⟨⟨by decide +kernel, by decide +kernel⟩, List.mem_of_getElem? (i := 170) (by decide +kernel), List.mem_of_getElem? (i := 366) (by decide +kernel), List.mem_of_getElem? (i := 367) (by decide +kernel)⟩
theorem lw_p8 : lw_okq (⟨"WayBoxes$Reader", "term", "()I"⟩, 4) := ⟨⟨by decide +kernel, by decide +kernel⟩, List.mem_of_getElem? (i := 170) (by decide +kernel), List.mem_of_getElem? (i := 370) (by decide +kernel), List.mem_of_getElem? (i := 371) (by decide +kernel)⟩
theorem lw_p9 : lw_okq (⟨"WayBoxes$Reader", "readsActs", "(I)Z"⟩, 4) := ⟨⟨by decide +kernel, by decide +kernel⟩, List.mem_of_getElem? (i := 170) (by decide +kernel), List.mem_of_getElem? (i := 382) (by decide +kernel), List.mem_of_getElem? (i := 383) (by decide +kernel)⟩
theorem lw_p10 : lw_okq (⟨"WayBoxes$Reader", "readsAct", "()Z"⟩, 4) := ⟨⟨by decide +kernel, by decide +kernel⟩, List.mem_of_getElem? (i := 170) (by decide +kernel), List.mem_of_getElem? (i := 386) (by decide +kernel), List.mem_of_getElem? (i := 387) (by decide +kernel)⟩
theorem lw_p11 : lw_okq (⟨"WayBoxes$Reader", "readsSum", "(I)Z"⟩, 4) := ⟨⟨by decide +kernel, by decide +kernel⟩, List.mem_of_getElem? (i := 170) (by decide +kernel), List.mem_of_getElem? (i := 390) (by decide +kernel), List.mem_of_getElem? (i := 391) (by decide +kernel)⟩
theorem lw_p12 : lw_okq (⟨"WayBoxes$Reader", "handsOver", "()LWayBoxes$Text;"⟩, 4) := ⟨⟨by decide +kernel, by decide +kernel⟩, List.mem_of_getElem? (i := 170) (by decide +kernel), List.mem_of_getElem? (i := 398) (by decide +kernel), List.mem_of_getElem? (i := 399) (by decide +kernel)⟩
theorem lw_p13 : lw_okq (⟨"WayBoxes$Text", "holds", "(ILWayBoxes$Packet;LWayBoxes$Memory;)Z"⟩, 9) := ⟨⟨by decide +kernel, by decide +kernel⟩, List.mem_of_getElem? (i := 287) (by decide +kernel), List.mem_of_getElem? (i := 481) (by decide +kernel), List.mem_of_getElem? (i := 482) (by decide +kernel)⟩
theorem lw_p14 : lw_okq (⟨"WayBoxes$Text", "sumOf", "(IILWayBoxes$Packet;LWayBoxes$Memory;)I"⟩, 9) := ⟨⟨by decide +kernel, by decide +kernel⟩, List.mem_of_getElem? (i := 287) (by decide +kernel), List.mem_of_getElem? (i := 511) (by decide +kernel), List.mem_of_getElem? (i := 512) (by decide +kernel)⟩
theorem lw_p15 : lw_okq (⟨"WayBoxes$Search", "partsWays", "(ILWayBoxes$Packet;)Z"⟩, 10) := ⟨⟨by decide +kernel, by decide +kernel⟩, List.mem_of_getElem? (i := 190) (by decide +kernel), List.mem_of_getElem? (i := 646) (by decide +kernel), List.mem_of_getElem? (i := 647) (by decide +kernel)⟩
def lw_privs_1 : List (MethodName × Nat) := [(⟨"WayBoxes$Reader", "readsKind", "(I)Z"⟩, 4), (⟨"WayBoxes$Reader", "takes", "(I)Z"⟩, 4), (⟨"WayBoxes$Reader", "takesDigit", "(I)I"⟩, 4), (⟨"WayBoxes$Reader", "readsE", "(I)Z"⟩, 4), (⟨"WayBoxes$Reader", "readsT", "(I)Z"⟩, 4), (⟨"WayBoxes$Reader", "readsF", "(I)Z"⟩, 4), (⟨"WayBoxes$Reader", "next", "()I"⟩, 4), (⟨"WayBoxes$Reader", "readsTest", "()Z"⟩, 4), (⟨"WayBoxes$Reader", "term", "()I"⟩, 4), (⟨"WayBoxes$Reader", "readsActs", "(I)Z"⟩, 4), (⟨"WayBoxes$Reader", "readsAct", "()Z"⟩, 4), (⟨"WayBoxes$Reader", "readsSum", "(I)Z"⟩, 4), (⟨"WayBoxes$Reader", "handsOver", "()LWayBoxes$Text;"⟩, 4), (⟨"WayBoxes$Text", "holds", "(ILWayBoxes$Packet;LWayBoxes$Memory;)Z"⟩, 9), (⟨"WayBoxes$Text", "sumOf", "(IILWayBoxes$Packet;LWayBoxes$Memory;)I"⟩, 9), (⟨"WayBoxes$Search", "partsWays", "(ILWayBoxes$Packet;)Z"⟩, 10)]
theorem lw_r1 : ∀ q ∈ lw_privs_1, lw_okq q := List.forall_mem_cons.mpr ⟨lw_p0, List.forall_mem_cons.mpr ⟨lw_p1, List.forall_mem_cons.mpr ⟨lw_p2, List.forall_mem_cons.mpr ⟨lw_p3, List.forall_mem_cons.mpr ⟨lw_p4, List.forall_mem_cons.mpr ⟨lw_p5, List.forall_mem_cons.mpr ⟨lw_p6, List.forall_mem_cons.mpr ⟨lw_p7, List.forall_mem_cons.mpr ⟨lw_p8, List.forall_mem_cons.mpr ⟨lw_p9, List.forall_mem_cons.mpr ⟨lw_p10, List.forall_mem_cons.mpr ⟨lw_p11, List.forall_mem_cons.mpr ⟨lw_p12, List.forall_mem_cons.mpr ⟨lw_p13, List.forall_mem_cons.mpr ⟨lw_p14, List.forall_mem_cons.mpr ⟨lw_p15, fun _ h => absurd h List.not_mem_nil⟩⟩⟩⟩⟩⟩⟩⟩⟩⟩⟩⟩⟩⟩⟩⟩
theorem lw_p16 : lw_okq (⟨"WayBoxes$Search", "carried", "(II)LWayBoxes$Memory;"⟩, 10) := ⟨⟨by decide +kernel, by decide +kernel⟩, List.mem_of_getElem? (i := 190) (by decide +kernel), List.mem_of_getElem? (i := 650) (by decide +kernel), List.mem_of_getElem? (i := 651) (by decide +kernel)⟩
theorem lw_p17 : lw_okq (⟨"WayBoxes$Search", "breaks", "(ILWayBoxes$Packet;)Z"⟩, 10) := ⟨⟨by decide +kernel, by decide +kernel⟩, List.mem_of_getElem? (i := 190) (by decide +kernel), List.mem_of_getElem? (i := 657) (by decide +kernel), List.mem_of_getElem? (i := 658) (by decide +kernel)⟩
theorem lw_p18 : lw_okq (⟨"WayBoxes$Watch", "opensMany", "(II)Z"⟩, 6) := ⟨⟨by decide +kernel, by decide +kernel⟩, List.mem_of_getElem? (i := 201) (by decide +kernel), List.mem_of_getElem? (i := 670) (by decide +kernel), List.mem_of_getElem? (i := 671) (by decide +kernel)⟩
theorem lw_p19 : lw_okq (⟨"WayBoxes$Watch", "isTwice", "(I)Z"⟩, 6) := ⟨⟨by decide +kernel, by decide +kernel⟩, List.mem_of_getElem? (i := 201) (by decide +kernel), List.mem_of_getElem? (i := 674) (by decide +kernel), List.mem_of_getElem? (i := 675) (by decide +kernel)⟩
theorem lw_p20 : lw_okq (⟨"WayBoxes$Search", "swap", "(II)V"⟩, 10) := ⟨⟨by decide +kernel, by decide +kernel⟩, List.mem_of_getElem? (i := 190) (by decide +kernel), List.mem_of_getElem? (i := 690) (by decide +kernel), List.mem_of_getElem? (i := 691) (by decide +kernel)⟩
theorem lw_p21 : lw_okq (⟨"WayBoxes$Trace", "runsFrom", "(IIII)I"⟩, 5) := ⟨⟨by decide +kernel, by decide +kernel⟩, List.mem_of_getElem? (i := 36) (by decide +kernel), List.mem_of_getElem? (i := 702) (by decide +kernel), List.mem_of_getElem? (i := 703) (by decide +kernel)⟩
theorem lw_p22 : lw_okq (⟨"WayBoxes$Trace", "answerOf", "(IIII)I"⟩, 5) := ⟨⟨by decide +kernel, by decide +kernel⟩, List.mem_of_getElem? (i := 36) (by decide +kernel), List.mem_of_getElem? (i := 710) (by decide +kernel), List.mem_of_getElem? (i := 711) (by decide +kernel)⟩
theorem lw_p23 : lw_okq (⟨"WayBoxesModel", "lineHere", "()V"⟩, 44) := ⟨⟨by decide +kernel, by decide +kernel⟩, List.mem_of_getElem? (i := 751) (by decide +kernel), List.mem_of_getElem? (i := 902) (by decide +kernel), List.mem_of_getElem? (i := 903) (by decide +kernel)⟩
theorem lw_p24 : lw_okq (⟨"WayBoxesModel", "here", "()I"⟩, 44) := ⟨⟨by decide +kernel, by decide +kernel⟩, List.mem_of_getElem? (i := 751) (by decide +kernel), List.mem_of_getElem? (i := 906) (by decide +kernel), List.mem_of_getElem? (i := 907) (by decide +kernel)⟩
theorem lw_p25 : lw_okq (⟨"WayBoxesModel", "emits", "(I)V"⟩, 44) := ⟨⟨by decide +kernel, by decide +kernel⟩, List.mem_of_getElem? (i := 751) (by decide +kernel), List.mem_of_getElem? (i := 910) (by decide +kernel), List.mem_of_getElem? (i := 911) (by decide +kernel)⟩
theorem lw_p26 : lw_okq (⟨"WayBoxesModel", "some", "()V"⟩, 44) := ⟨⟨by decide +kernel, by decide +kernel⟩, List.mem_of_getElem? (i := 751) (by decide +kernel), List.mem_of_getElem? (i := 914) (by decide +kernel), List.mem_of_getElem? (i := 915) (by decide +kernel)⟩
theorem lw_p27 : lw_okq (⟨"WayBoxesModel", "every", "()V"⟩, 44) := ⟨⟨by decide +kernel, by decide +kernel⟩, List.mem_of_getElem? (i := 751) (by decide +kernel), List.mem_of_getElem? (i := 918) (by decide +kernel), List.mem_of_getElem? (i := 919) (by decide +kernel)⟩
theorem lw_p28 : lw_okq (⟨"WayBoxesModel", "factor", "()V"⟩, 44) := ⟨⟨by decide +kernel, by decide +kernel⟩, List.mem_of_getElem? (i := 751) (by decide +kernel), List.mem_of_getElem? (i := 922) (by decide +kernel), List.mem_of_getElem? (i := 923) (by decide +kernel)⟩
theorem lw_p29 : lw_okq (⟨"WayBoxesModel", "must", "(I)V"⟩, 44) := ⟨⟨by decide +kernel, by decide +kernel⟩, List.mem_of_getElem? (i := 751) (by decide +kernel), List.mem_of_getElem? (i := 926) (by decide +kernel), List.mem_of_getElem? (i := 927) (by decide +kernel)⟩
theorem lw_p30 : lw_okq (⟨"WayBoxesModel", "term", "()I"⟩, 44) := ⟨⟨by decide +kernel, by decide +kernel⟩, List.mem_of_getElem? (i := 751) (by decide +kernel), List.mem_of_getElem? (i := 930) (by decide +kernel), List.mem_of_getElem? (i := 931) (by decide +kernel)⟩
theorem lw_p31 : lw_okq (⟨"WayBoxesModel", "cellHere", "()I"⟩, 44) := ⟨⟨by decide +kernel, by decide +kernel⟩, List.mem_of_getElem? (i := 751) (by decide +kernel), List.mem_of_getElem? (i := 934) (by decide +kernel), List.mem_of_getElem? (i := 935) (by decide +kernel)⟩
def lw_privs_2 : List (MethodName × Nat) := [(⟨"WayBoxes$Search", "carried", "(II)LWayBoxes$Memory;"⟩, 10), (⟨"WayBoxes$Search", "breaks", "(ILWayBoxes$Packet;)Z"⟩, 10), (⟨"WayBoxes$Watch", "opensMany", "(II)Z"⟩, 6), (⟨"WayBoxes$Watch", "isTwice", "(I)Z"⟩, 6), (⟨"WayBoxes$Search", "swap", "(II)V"⟩, 10), (⟨"WayBoxes$Trace", "runsFrom", "(IIII)I"⟩, 5), (⟨"WayBoxes$Trace", "answerOf", "(IIII)I"⟩, 5), (⟨"WayBoxesModel", "lineHere", "()V"⟩, 44), (⟨"WayBoxesModel", "here", "()I"⟩, 44), (⟨"WayBoxesModel", "emits", "(I)V"⟩, 44), (⟨"WayBoxesModel", "some", "()V"⟩, 44), (⟨"WayBoxesModel", "every", "()V"⟩, 44), (⟨"WayBoxesModel", "factor", "()V"⟩, 44), (⟨"WayBoxesModel", "must", "(I)V"⟩, 44), (⟨"WayBoxesModel", "term", "()I"⟩, 44), (⟨"WayBoxesModel", "cellHere", "()I"⟩, 44)]
theorem lw_r2 : ∀ q ∈ lw_privs_2, lw_okq q := List.forall_mem_cons.mpr ⟨lw_p16, List.forall_mem_cons.mpr ⟨lw_p17, List.forall_mem_cons.mpr ⟨lw_p18, List.forall_mem_cons.mpr ⟨lw_p19, List.forall_mem_cons.mpr ⟨lw_p20, List.forall_mem_cons.mpr ⟨lw_p21, List.forall_mem_cons.mpr ⟨lw_p22, List.forall_mem_cons.mpr ⟨lw_p23, List.forall_mem_cons.mpr ⟨lw_p24, List.forall_mem_cons.mpr ⟨lw_p25, List.forall_mem_cons.mpr ⟨lw_p26, List.forall_mem_cons.mpr ⟨lw_p27, List.forall_mem_cons.mpr ⟨lw_p28, List.forall_mem_cons.mpr ⟨lw_p29, List.forall_mem_cons.mpr ⟨lw_p30, List.forall_mem_cons.mpr ⟨lw_p31, fun _ h => absurd h List.not_mem_nil⟩⟩⟩⟩⟩⟩⟩⟩⟩⟩⟩⟩⟩⟩⟩⟩
theorem lw_p32 : lw_okq (⟨"WayBoxesModel", "marks", "(IZ)V"⟩, 44) := ⟨⟨by decide +kernel, by decide +kernel⟩, List.mem_of_getElem? (i := 751) (by decide +kernel), List.mem_of_getElem? (i := 938) (by decide +kernel), List.mem_of_getElem? (i := 939) (by decide +kernel)⟩
theorem lw_p33 : lw_okq (⟨"WayBoxesModel", "actHere", "()V"⟩, 44) := ⟨⟨by decide +kernel, by decide +kernel⟩, List.mem_of_getElem? (i := 751) (by decide +kernel), List.mem_of_getElem? (i := 943) (by decide +kernel), List.mem_of_getElem? (i := 944) (by decide +kernel)⟩
theorem lw_p34 : lw_okq (⟨"WayBoxesModel", "sum", "(I)V"⟩, 44) := ⟨⟨by decide +kernel, by decide +kernel⟩, List.mem_of_getElem? (i := 751) (by decide +kernel), List.mem_of_getElem? (i := 947) (by decide +kernel), List.mem_of_getElem? (i := 948) (by decide +kernel)⟩
theorem lw_p35 : lw_okq (⟨"WayBoxesModel", "isText", "(I)Z"⟩, 44) := ⟨⟨by decide +kernel, by decide +kernel⟩, List.mem_of_getElem? (i := 751) (by decide +kernel), List.mem_of_getElem? (i := 955) (by decide +kernel), List.mem_of_getElem? (i := 956) (by decide +kernel)⟩
theorem lw_p36 : lw_okq (⟨"WayBoxesModel", "isBox", "(I)Z"⟩, 44) := ⟨⟨by decide +kernel, by decide +kernel⟩, List.mem_of_getElem? (i := 751) (by decide +kernel), List.mem_of_getElem? (i := 974) (by decide +kernel), List.mem_of_getElem? (i := 975) (by decide +kernel)⟩
theorem lw_p37 : lw_okq (⟨"WayBoxesModel", "packet", "(IIII)V"⟩, 44) := ⟨⟨by decide +kernel, by decide +kernel⟩, List.mem_of_getElem? (i := 751) (by decide +kernel), List.mem_of_getElem? (i := 984) (by decide +kernel), List.mem_of_getElem? (i := 985) (by decide +kernel)⟩
theorem lw_p38 : lw_okq (⟨"WayBoxesModel", "worksBox", "(I)I"⟩, 44) := ⟨⟨by decide +kernel, by decide +kernel⟩, List.mem_of_getElem? (i := 751) (by decide +kernel), List.mem_of_getElem? (i := 988) (by decide +kernel), List.mem_of_getElem? (i := 989) (by decide +kernel)⟩
theorem lw_p39 : lw_okq (⟨"WayBoxesModel", "works", "(I)I"⟩, 44) := ⟨⟨by decide +kernel, by decide +kernel⟩, List.mem_of_getElem? (i := 751) (by decide +kernel), List.mem_of_getElem? (i := 992) (by decide +kernel), List.mem_of_getElem? (i := 993) (by decide +kernel)⟩
theorem lw_p40 : lw_okq (⟨"WayBoxesModel", "isSo", "(I)Z"⟩, 44) := ⟨⟨by decide +kernel, by decide +kernel⟩, List.mem_of_getElem? (i := 751) (by decide +kernel), List.mem_of_getElem? (i := 996) (by decide +kernel), List.mem_of_getElem? (i := 997) (by decide +kernel)⟩
theorem lw_p41 : lw_okq (⟨"WayBoxesModel", "value", "(I)I"⟩, 44) := ⟨⟨by decide +kernel, by decide +kernel⟩, List.mem_of_getElem? (i := 751) (by decide +kernel), List.mem_of_getElem? (i := 1000) (by decide +kernel), List.mem_of_getElem? (i := 1001) (by decide +kernel)⟩
theorem lw_p42 : lw_okq (⟨"WayBoxesModel", "place", "(I)I"⟩, 44) := ⟨⟨by decide +kernel, by decide +kernel⟩, List.mem_of_getElem? (i := 751) (by decide +kernel), List.mem_of_getElem? (i := 1004) (by decide +kernel), List.mem_of_getElem? (i := 1005) (by decide +kernel)⟩
theorem lw_p43 : lw_okq (⟨"WayBoxesModel", "acts", "(II)I"⟩, 44) := ⟨⟨by decide +kernel, by decide +kernel⟩, List.mem_of_getElem? (i := 751) (by decide +kernel), List.mem_of_getElem? (i := 1008) (by decide +kernel), List.mem_of_getElem? (i := 1009) (by decide +kernel)⟩
theorem lw_p44 : lw_okq (⟨"WayBoxesModel", "becomes", "(II)V"⟩, 44) := ⟨⟨by decide +kernel, by decide +kernel⟩, List.mem_of_getElem? (i := 751) (by decide +kernel), List.mem_of_getElem? (i := 1012) (by decide +kernel), List.mem_of_getElem? (i := 1013) (by decide +kernel)⟩
theorem lw_p45 : lw_okq (⟨"WayBoxesModel", "isLedTo", "(I)Z"⟩, 44) := ⟨⟨by decide +kernel, by decide +kernel⟩, List.mem_of_getElem? (i := 751) (by decide +kernel), List.mem_of_getElem? (i := 1029) (by decide +kernel), List.mem_of_getElem? (i := 1030) (by decide +kernel)⟩
theorem lw_p46 : lw_okq (⟨"WayBoxesModel", "sends", "()I"⟩, 44) := ⟨⟨by decide +kernel, by decide +kernel⟩, List.mem_of_getElem? (i := 751) (by decide +kernel), List.mem_of_getElem? (i := 1037) (by decide +kernel), List.mem_of_getElem? (i := 1038) (by decide +kernel)⟩
theorem lw_p47 : lw_okq (⟨"WayBoxesModel", "isInRow", "(I)Z"⟩, 44) := ⟨⟨by decide +kernel, by decide +kernel⟩, List.mem_of_getElem? (i := 751) (by decide +kernel), List.mem_of_getElem? (i := 1046) (by decide +kernel), List.mem_of_getElem? (i := 1047) (by decide +kernel)⟩
def lw_privs_3 : List (MethodName × Nat) := [(⟨"WayBoxesModel", "marks", "(IZ)V"⟩, 44), (⟨"WayBoxesModel", "actHere", "()V"⟩, 44), (⟨"WayBoxesModel", "sum", "(I)V"⟩, 44), (⟨"WayBoxesModel", "isText", "(I)Z"⟩, 44), (⟨"WayBoxesModel", "isBox", "(I)Z"⟩, 44), (⟨"WayBoxesModel", "packet", "(IIII)V"⟩, 44), (⟨"WayBoxesModel", "worksBox", "(I)I"⟩, 44), (⟨"WayBoxesModel", "works", "(I)I"⟩, 44), (⟨"WayBoxesModel", "isSo", "(I)Z"⟩, 44), (⟨"WayBoxesModel", "value", "(I)I"⟩, 44), (⟨"WayBoxesModel", "place", "(I)I"⟩, 44), (⟨"WayBoxesModel", "acts", "(II)I"⟩, 44), (⟨"WayBoxesModel", "becomes", "(II)V"⟩, 44), (⟨"WayBoxesModel", "isLedTo", "(I)Z"⟩, 44), (⟨"WayBoxesModel", "sends", "()I"⟩, 44), (⟨"WayBoxesModel", "isInRow", "(I)Z"⟩, 44)]
theorem lw_r3 : ∀ q ∈ lw_privs_3, lw_okq q := List.forall_mem_cons.mpr ⟨lw_p32, List.forall_mem_cons.mpr ⟨lw_p33, List.forall_mem_cons.mpr ⟨lw_p34, List.forall_mem_cons.mpr ⟨lw_p35, List.forall_mem_cons.mpr ⟨lw_p36, List.forall_mem_cons.mpr ⟨lw_p37, List.forall_mem_cons.mpr ⟨lw_p38, List.forall_mem_cons.mpr ⟨lw_p39, List.forall_mem_cons.mpr ⟨lw_p40, List.forall_mem_cons.mpr ⟨lw_p41, List.forall_mem_cons.mpr ⟨lw_p42, List.forall_mem_cons.mpr ⟨lw_p43, List.forall_mem_cons.mpr ⟨lw_p44, List.forall_mem_cons.mpr ⟨lw_p45, List.forall_mem_cons.mpr ⟨lw_p46, List.forall_mem_cons.mpr ⟨lw_p47, fun _ h => absurd h List.not_mem_nil⟩⟩⟩⟩⟩⟩⟩⟩⟩⟩⟩⟩⟩⟩⟩⟩
theorem lw_p48 : lw_okq (⟨"WayBoxesModel", "leading", "(I)I"⟩, 44) := ⟨⟨by decide +kernel, by decide +kernel⟩, List.mem_of_getElem? (i := 751) (by decide +kernel), List.mem_of_getElem? (i := 1050) (by decide +kernel), List.mem_of_getElem? (i := 1051) (by decide +kernel)⟩
theorem lw_p49 : lw_okq (⟨"WayBoxesModel", "breach", "(III)I"⟩, 44) := ⟨⟨by decide +kernel, by decide +kernel⟩, List.mem_of_getElem? (i := 751) (by decide +kernel), List.mem_of_getElem? (i := 1089) (by decide +kernel), List.mem_of_getElem? (i := 1090) (by decide +kernel)⟩
theorem lw_p50 : lw_okq (⟨"WayBoxesModel", "keeps", "(III)Z"⟩, 44) := ⟨⟨by decide +kernel, by decide +kernel⟩, List.mem_of_getElem? (i := 751) (by decide +kernel), List.mem_of_getElem? (i := 1093) (by decide +kernel), List.mem_of_getElem? (i := 1094) (by decide +kernel)⟩
theorem lw_p51 : lw_okq (⟨"WayBoxesModel", "empties", "()V"⟩, 44) := ⟨⟨by decide +kernel, by decide +kernel⟩, List.mem_of_getElem? (i := 751) (by decide +kernel), List.mem_of_getElem? (i := 1097) (by decide +kernel), List.mem_of_getElem? (i := 1098) (by decide +kernel)⟩
theorem lw_p52 : lw_okq (⟨"WayBoxesModel", "tries", "(I)I"⟩, 44) := ⟨⟨by decide +kernel, by decide +kernel⟩, List.mem_of_getElem? (i := 751) (by decide +kernel), List.mem_of_getElem? (i := 1101) (by decide +kernel), List.mem_of_getElem? (i := 1102) (by decide +kernel)⟩
theorem lw_p53 : lw_okq (⟨"WayBoxesModel", "isKept", "(II)Z"⟩, 44) := ⟨⟨by decide +kernel, by decide +kernel⟩, List.mem_of_getElem? (i := 751) (by decide +kernel), List.mem_of_getElem? (i := 1105) (by decide +kernel), List.mem_of_getElem? (i := 1106) (by decide +kernel)⟩
theorem lw_p54 : lw_okq (⟨"WayBoxesModel", "next", "(I)Z"⟩, 44) := ⟨⟨by decide +kernel, by decide +kernel⟩, List.mem_of_getElem? (i := 751) (by decide +kernel), List.mem_of_getElem? (i := 1109) (by decide +kernel), List.mem_of_getElem? (i := 1110) (by decide +kernel)⟩
theorem lw_p55 : lw_okq (⟨"WayBoxesModel", "lastBy", "(II)I"⟩, 44) := ⟨⟨by decide +kernel, by decide +kernel⟩, List.mem_of_getElem? (i := 751) (by decide +kernel), List.mem_of_getElem? (i := 1117) (by decide +kernel), List.mem_of_getElem? (i := 1118) (by decide +kernel)⟩
theorem lw_p56 : lw_okq (⟨"WayBoxesModel", "arranges", "(IIIII)V"⟩, 44) := ⟨⟨by decide +kernel, by decide +kernel⟩, List.mem_of_getElem? (i := 751) (by decide +kernel), List.mem_of_getElem? (i := 1125) (by decide +kernel), List.mem_of_getElem? (i := 1126) (by decide +kernel)⟩
theorem lw_p57 : lw_okq (⟨"WayBoxesModel", "keepsActs", "(I)I"⟩, 44) := ⟨⟨by decide +kernel, by decide +kernel⟩, List.mem_of_getElem? (i := 751) (by decide +kernel), List.mem_of_getElem? (i := 1133) (by decide +kernel), List.mem_of_getElem? (i := 1134) (by decide +kernel)⟩
theorem lw_p58 : lw_okq (⟨"WayBoxesModel", "runs", "(I)V"⟩, 44) := ⟨⟨by decide +kernel, by decide +kernel⟩, List.mem_of_getElem? (i := 751) (by decide +kernel), List.mem_of_getElem? (i := 1137) (by decide +kernel), List.mem_of_getElem? (i := 1138) (by decide +kernel)⟩
theorem lw_p59 : lw_okq (⟨"WayBoxesModel", "plainKeeps", "(I)I"⟩, 44) := ⟨⟨by decide +kernel, by decide +kernel⟩, List.mem_of_getElem? (i := 751) (by decide +kernel), List.mem_of_getElem? (i := 1141) (by decide +kernel), List.mem_of_getElem? (i := 1142) (by decide +kernel)⟩
theorem lw_p60 : lw_okq (⟨"WayBoxesModel", "worksActs", "(I)I"⟩, 44) := ⟨⟨by decide +kernel, by decide +kernel⟩, List.mem_of_getElem? (i := 751) (by decide +kernel), List.mem_of_getElem? (i := 1145) (by decide +kernel), List.mem_of_getElem? (i := 1146) (by decide +kernel)⟩
theorem lw_p61 : lw_okq (⟨"WayBoxesModel", "plainWorks", "(I)I"⟩, 44) := ⟨⟨by decide +kernel, by decide +kernel⟩, List.mem_of_getElem? (i := 751) (by decide +kernel), List.mem_of_getElem? (i := 1149) (by decide +kernel), List.mem_of_getElem? (i := 1150) (by decide +kernel)⟩
theorem lw_p62 : lw_okq (⟨"WayBoxesModel", "leadsActs", "(I)I"⟩, 44) := ⟨⟨by decide +kernel, by decide +kernel⟩, List.mem_of_getElem? (i := 751) (by decide +kernel), List.mem_of_getElem? (i := 1156) (by decide +kernel), List.mem_of_getElem? (i := 1157) (by decide +kernel)⟩
theorem lw_p63 : lw_okq (⟨"WayBoxesModel", "plainLeads", "(I)I"⟩, 44) := ⟨⟨by decide +kernel, by decide +kernel⟩, List.mem_of_getElem? (i := 751) (by decide +kernel), List.mem_of_getElem? (i := 1160) (by decide +kernel), List.mem_of_getElem? (i := 1161) (by decide +kernel)⟩
def lw_privs_4 : List (MethodName × Nat) := [(⟨"WayBoxesModel", "leading", "(I)I"⟩, 44), (⟨"WayBoxesModel", "breach", "(III)I"⟩, 44), (⟨"WayBoxesModel", "keeps", "(III)Z"⟩, 44), (⟨"WayBoxesModel", "empties", "()V"⟩, 44), (⟨"WayBoxesModel", "tries", "(I)I"⟩, 44), (⟨"WayBoxesModel", "isKept", "(II)Z"⟩, 44), (⟨"WayBoxesModel", "next", "(I)Z"⟩, 44), (⟨"WayBoxesModel", "lastBy", "(II)I"⟩, 44), (⟨"WayBoxesModel", "arranges", "(IIIII)V"⟩, 44), (⟨"WayBoxesModel", "keepsActs", "(I)I"⟩, 44), (⟨"WayBoxesModel", "runs", "(I)V"⟩, 44), (⟨"WayBoxesModel", "plainKeeps", "(I)I"⟩, 44), (⟨"WayBoxesModel", "worksActs", "(I)I"⟩, 44), (⟨"WayBoxesModel", "plainWorks", "(I)I"⟩, 44), (⟨"WayBoxesModel", "leadsActs", "(I)I"⟩, 44), (⟨"WayBoxesModel", "plainLeads", "(I)I"⟩, 44)]
theorem lw_r4 : ∀ q ∈ lw_privs_4, lw_okq q := List.forall_mem_cons.mpr ⟨lw_p48, List.forall_mem_cons.mpr ⟨lw_p49, List.forall_mem_cons.mpr ⟨lw_p50, List.forall_mem_cons.mpr ⟨lw_p51, List.forall_mem_cons.mpr ⟨lw_p52, List.forall_mem_cons.mpr ⟨lw_p53, List.forall_mem_cons.mpr ⟨lw_p54, List.forall_mem_cons.mpr ⟨lw_p55, List.forall_mem_cons.mpr ⟨lw_p56, List.forall_mem_cons.mpr ⟨lw_p57, List.forall_mem_cons.mpr ⟨lw_p58, List.forall_mem_cons.mpr ⟨lw_p59, List.forall_mem_cons.mpr ⟨lw_p60, List.forall_mem_cons.mpr ⟨lw_p61, List.forall_mem_cons.mpr ⟨lw_p62, List.forall_mem_cons.mpr ⟨lw_p63, fun _ h => absurd h List.not_mem_nil⟩⟩⟩⟩⟩⟩⟩⟩⟩⟩⟩⟩⟩⟩⟩⟩
def lw_privs : List (MethodName × Nat) := lw_privs_1 ++ (lw_privs_2 ++ (lw_privs_3 ++ (lw_privs_4)))
def lw_tbl : List Cond := k2_sels lw_privs ++ tables_1
theorem lw_privs_ok : ∀ q ∈ lw_privs, lw_okq q := by
  show ∀ q ∈ lw_privs_1 ++ (lw_privs_2 ++ (lw_privs_3 ++ (lw_privs_4))), lw_okq q
  exact List.forall_mem_append.mpr ⟨lw_r1, List.forall_mem_append.mpr ⟨lw_r2, List.forall_mem_append.mpr ⟨lw_r3, lw_r4⟩⟩⟩
-- ===== end of PART A; then your names; then what follows =====
end
section
def RX0 : String := "WayBoxes$Box"
def TX0 : u_T := fun k => match k with
  | 0 => ("WayBoxes$Box", "number", "I", false)
  | 1 => ("WayBoxes$Box", "kind", "I", false)
  | 2 => ("WayBoxes$Box", "text", "I", false)
  | 3 => ("WayBoxes$Box", "latest", "I", false)
  | 4 => ("WayBoxes$Box", "copies", "I", false)
  | 5 => ("WayBoxes$Box", "led", "[I", true)
  | 6 => ("WayBoxes$Box", "memory", "LWayBoxes$Memory;", true)
  | _ => ("WayBoxes$Box", "copied", "LWayBoxes$Memory;", true)
def tyX0 : Nat → FieldType := fun k => match k with
  | 0 => .int
  | 1 => .int
  | 2 => .int
  | 3 => .int
  | 4 => .int
  | 5 => .array .int
  | 6 => .object "WayBoxes$Memory"
  | _ => .object "WayBoxes$Memory"
theorem nmX0 : ∀ a, a < 8 → ∀ b, b < 8 → a ≠ b → (TX0 a).2.1 ≠ (TX0 b).2.1 := by decide +kernel
theorem tyX0_ok : ∀ k, k < 8 → parseFieldDescriptor (TX0 k).2.2.1 = some (tyX0 k) := by decide +kernel
abbrev cX0_init : ByteArray := prog_2_method_1_code
def yX0_init : MethodName := ⟨RX0, "<init>", "()V"⟩
abbrev cX0_begin : ByteArray := prog_2_method_2_code
def yX0_begin : MethodName := ⟨RX0, "begin", "(III)V"⟩
abbrev cX0_become : ByteArray := prog_2_method_3_code
def yX0_become : MethodName := ⟨RX0, "become", "(LWayBoxes$Box;)V"⟩
abbrev cX0_steps : ByteArray := prog_2_method_4_code
def yX0_steps : MethodName := ⟨RX0, "steps", "(LWayBoxes$Packet;LWayBoxes$Text;)I"⟩
abbrev cX0_ledAway : ByteArray := prog_2_method_5_code
def yX0_ledAway : MethodName := ⟨RX0, "ledAway", "()I"⟩
abbrev cX0_leadsTo : ByteArray := prog_2_method_6_code
def yX0_leadsTo : MethodName := ⟨RX0, "leadsTo", "(I)Z"⟩
def RX1 : String := "WayBoxes$Memory"
def TX1 : u_T := fun k => match k with
  | _ => ("WayBoxes$Memory", "cells", "[I", true)
def tyX1 : Nat → FieldType := fun k => match k with
  | _ => .array .int
theorem nmX1 : ∀ a, a < 1 → ∀ b, b < 1 → a ≠ b → (TX1 a).2.1 ≠ (TX1 b).2.1 := by decide +kernel
theorem tyX1_ok : ∀ k, k < 1 → parseFieldDescriptor (TX1 k).2.2.1 = some (tyX1 k) := by decide +kernel
abbrev cX1_init : ByteArray := prog_3_method_1_code
def yX1_init : MethodName := ⟨RX1, "<init>", "()V"⟩
abbrev cX1_clear : ByteArray := prog_3_method_2_code
def yX1_clear : MethodName := ⟨RX1, "clear", "()V"⟩
abbrev cX1_become : ByteArray := prog_3_method_3_code
def yX1_become : MethodName := ⟨RX1, "become", "(LWayBoxes$Memory;)V"⟩
abbrev cX1_at : ByteArray := prog_3_method_4_code
def yX1_at : MethodName := ⟨RX1, "at", "(I)I"⟩
abbrev cX1_put : ByteArray := prog_3_method_5_code
def yX1_put : MethodName := ⟨RX1, "put", "(II)V"⟩
abbrev cX1_forgetTalk : ByteArray := prog_3_method_6_code
def yX1_forgetTalk : MethodName := ⟨RX1, "forgetTalk", "(I)V"⟩
abbrev cX1_takeTalk : ByteArray := prog_3_method_7_code
def yX1_takeTalk : MethodName := ⟨RX1, "takeTalk", "(LWayBoxes$Memory;I)V"⟩
abbrev cX1_hasTalkOf : ByteArray := prog_3_method_8_code
def yX1_hasTalkOf : MethodName := ⟨RX1, "hasTalkOf", "(LWayBoxes$Memory;I)Z"⟩
abbrev cX1_isSumOf : ByteArray := prog_3_method_9_code
def yX1_isSumOf : MethodName := ⟨RX1, "isSumOf", "(LWayBoxes$Memory;LWayBoxes$Memory;)Z"⟩
def RX2 : String := "WayBoxes$Packet"
def TX2 : u_T := fun k => match k with
  | 0 => ("WayBoxes$Packet", "talk", "I", true)
  | 1 => ("WayBoxes$Packet", "house", "I", true)
  | 2 => ("WayBoxes$Packet", "kind", "I", true)
  | _ => ("WayBoxes$Packet", "n", "I", true)
def tyX2 : Nat → FieldType := fun k => match k with
  | 0 => .int
  | 1 => .int
  | 2 => .int
  | _ => .int
theorem nmX2 : ∀ a, a < 4 → ∀ b, b < 4 → a ≠ b → (TX2 a).2.1 ≠ (TX2 b).2.1 := by decide +kernel
theorem tyX2_ok : ∀ k, k < 4 → parseFieldDescriptor (TX2 k).2.2.1 = some (tyX2 k) := by decide +kernel
abbrev cX2_init : ByteArray := prog_4_method_1_code
def yX2_init : MethodName := ⟨RX2, "<init>", "(IIII)V"⟩
def RX3 : String := "WayBoxes$Reader"
def TX3 : u_T := fun k => match k with
  | 0 => ("WayBoxes$Reader", "tape", "[I", false)
  | 1 => ("WayBoxes$Reader", "size", "I", false)
  | 2 => ("WayBoxes$Reader", "at", "I", false)
  | _ => ("WayBoxes$Reader", "text", "LWayBoxes$Text;", false)
def tyX3 : Nat → FieldType := fun k => match k with
  | 0 => .array .int
  | 1 => .int
  | 2 => .int
  | _ => .object "WayBoxes$Text"
theorem nmX3 : ∀ a, a < 4 → ∀ b, b < 4 → a ≠ b → (TX3 a).2.1 ≠ (TX3 b).2.1 := by decide +kernel
theorem tyX3_ok : ∀ k, k < 4 → parseFieldDescriptor (TX3 k).2.2.1 = some (tyX3 k) := by decide +kernel
abbrev cX3_init : ByteArray := prog_5_method_1_code
def yX3_init : MethodName := ⟨RX3, "<init>", "()V"⟩
abbrev cX3_reads : ByteArray := prog_5_method_2_code
def yX3_reads : MethodName := ⟨RX3, "reads", "([II)LWayBoxes$Text;"⟩
abbrev cX3_handsOver : ByteArray := prog_5_method_3_code
def yX3_handsOver : MethodName := ⟨RX3, "handsOver", "()LWayBoxes$Text;"⟩
abbrev cX3_readsKind : ByteArray := prog_5_method_4_code
def yX3_readsKind : MethodName := ⟨RX3, "readsKind", "(I)Z"⟩
abbrev cX3_readsE : ByteArray := prog_5_method_5_code
def yX3_readsE : MethodName := ⟨RX3, "readsE", "(I)Z"⟩
abbrev cX3_readsT : ByteArray := prog_5_method_6_code
def yX3_readsT : MethodName := ⟨RX3, "readsT", "(I)Z"⟩
abbrev cX3_readsF : ByteArray := prog_5_method_7_code
def yX3_readsF : MethodName := ⟨RX3, "readsF", "(I)Z"⟩
abbrev cX3_readsTest : ByteArray := prog_5_method_8_code
def yX3_readsTest : MethodName := ⟨RX3, "readsTest", "()Z"⟩
abbrev cX3_readsActs : ByteArray := prog_5_method_9_code
def yX3_readsActs : MethodName := ⟨RX3, "readsActs", "(I)Z"⟩
abbrev cX3_readsAct : ByteArray := prog_5_method_10_code
def yX3_readsAct : MethodName := ⟨RX3, "readsAct", "()Z"⟩
abbrev cX3_readsSum : ByteArray := prog_5_method_11_code
def yX3_readsSum : MethodName := ⟨RX3, "readsSum", "(I)Z"⟩
abbrev cX3_term : ByteArray := prog_5_method_12_code
def yX3_term : MethodName := ⟨RX3, "term", "()I"⟩
abbrev cX3_takesDigit : ByteArray := prog_5_method_13_code
def yX3_takesDigit : MethodName := ⟨RX3, "takesDigit", "(I)I"⟩
abbrev cX3_next : ByteArray := prog_5_method_14_code
def yX3_next : MethodName := ⟨RX3, "next", "()I"⟩
abbrev cX3_takes : ByteArray := prog_5_method_15_code
def yX3_takes : MethodName := ⟨RX3, "takes", "(I)Z"⟩
def RX4 : String := "WayBoxes$Search"
def TX4 : u_T := fun k => match k with
  | 0 => ("WayBoxes$Search", "memories", "[LWayBoxes$Memory;", true)
  | 1 => ("WayBoxes$Search", "watches", "[LWayBoxes$Watch;", true)
  | 2 => ("WayBoxes$Search", "texts", "[LWayBoxes$Text;", true)
  | 3 => ("WayBoxes$Search", "boxes", "[I", true)
  | 4 => ("WayBoxes$Search", "textCount", "I", false)
  | 5 => ("WayBoxes$Search", "letters", "[LWayBoxes$Packet;", false)
  | 6 => ("WayBoxes$Search", "letterCount", "I", false)
  | 7 => ("WayBoxes$Search", "form", "I", false)
  | 8 => ("WayBoxes$Search", "n", "I", false)
  | _ => ("WayBoxes$Search", "row", "[I", true)
def tyX4 : Nat → FieldType := fun k => match k with
  | 0 => .array (.object "WayBoxes$Memory")
  | 1 => .array (.object "WayBoxes$Watch")
  | 2 => .array (.object "WayBoxes$Text")
  | 3 => .array .int
  | 4 => .int
  | 5 => .array (.object "WayBoxes$Packet")
  | 6 => .int
  | 7 => .int
  | 8 => .int
  | _ => .array .int
theorem nmX4 : ∀ a, a < 10 → ∀ b, b < 10 → a ≠ b → (TX4 a).2.1 ≠ (TX4 b).2.1 := by decide +kernel
theorem tyX4_ok : ∀ k, k < 10 → parseFieldDescriptor (TX4 k).2.2.1 = some (tyX4 k) := by decide +kernel
abbrev cX4_init : ByteArray := prog_6_method_1_code
def yX4_init : MethodName := ⟨RX4, "<init>", "()V"⟩
abbrev cX4_begin : ByteArray := prog_6_method_2_code
def yX4_begin : MethodName := ⟨RX4, "begin", "([LWayBoxes$Packet;III)V"⟩
abbrev cX4_add : ByteArray := prog_6_method_3_code
def yX4_add : MethodName := ⟨RX4, "add", "(LWayBoxes$Text;I)V"⟩
abbrev cX4_shortest : ByteArray := prog_6_method_4_code
def yX4_shortest : MethodName := ⟨RX4, "shortest", "(I)I"⟩
abbrev cX4_finds : ByteArray := prog_6_method_5_code
def yX4_finds : MethodName := ⟨RX4, "finds", "(LWayBoxes$Search;II)Z"⟩
abbrev cX4_breaks : ByteArray := prog_6_method_6_code
def yX4_breaks : MethodName := ⟨RX4, "breaks", "(ILWayBoxes$Packet;)Z"⟩
abbrev cX4_partsWays : ByteArray := prog_6_method_7_code
def yX4_partsWays : MethodName := ⟨RX4, "partsWays", "(ILWayBoxes$Packet;)Z"⟩
abbrev cX4_carried : ByteArray := prog_6_method_8_code
def yX4_carried : MethodName := ⟨RX4, "carried", "(II)LWayBoxes$Memory;"⟩
abbrev cX4_turnsToNextOrder : ByteArray := prog_6_method_9_code
def yX4_turnsToNextOrder : MethodName := ⟨RX4, "turnsToNextOrder", "()Z"⟩
abbrev cX4_swap : ByteArray := prog_6_method_10_code
def yX4_swap : MethodName := ⟨RX4, "swap", "(II)V"⟩
def RX5 : String := "WayBoxes$State"
def TX5 : u_T := fun k => match k with
  | 0 => ("WayBoxes$State", "tape", "[I", true)
  | 1 => ("WayBoxes$State", "fed", "I", false)
  | 2 => ("WayBoxes$State", "texts", "[LWayBoxes$Text;", true)
  | 3 => ("WayBoxes$State", "textCount", "I", false)
  | 4 => ("WayBoxes$State", "boxes", "[LWayBoxes$Box;", true)
  | 5 => ("WayBoxes$State", "boxCount", "I", false)
  | 6 => ("WayBoxes$State", "row", "[I", true)
  | 7 => ("WayBoxes$State", "rowSize", "I", false)
  | 8 => ("WayBoxes$State", "waiting", "[LWayBoxes$Packet;", true)
  | 9 => ("WayBoxes$State", "waitCount", "I", false)
  | 10 => ("WayBoxes$State", "held", "I", false)
  | 11 => ("WayBoxes$State", "alphabet", "[LWayBoxes$Packet;", true)
  | 12 => ("WayBoxes$State", "letterCount", "I", false)
  | _ => ("WayBoxes$State", "trace", "LWayBoxes$Trace;", true)
def tyX5 : Nat → FieldType := fun k => match k with
  | 0 => .array .int
  | 1 => .int
  | 2 => .array (.object "WayBoxes$Text")
  | 3 => .int
  | 4 => .array (.object "WayBoxes$Box")
  | 5 => .int
  | 6 => .array .int
  | 7 => .int
  | 8 => .array (.object "WayBoxes$Packet")
  | 9 => .int
  | 10 => .int
  | 11 => .array (.object "WayBoxes$Packet")
  | 12 => .int
  | _ => .object "WayBoxes$Trace"
theorem nmX5 : ∀ a, a < 14 → ∀ b, b < 14 → a ≠ b → (TX5 a).2.1 ≠ (TX5 b).2.1 := by decide +kernel
theorem tyX5_ok : ∀ k, k < 14 → parseFieldDescriptor (TX5 k).2.2.1 = some (tyX5 k) := by decide +kernel
abbrev cX5_init : ByteArray := prog_7_method_1_code
def yX5_init : MethodName := ⟨RX5, "<init>", "()V"⟩
abbrev cX5_become : ByteArray := prog_7_method_2_code
def yX5_become : MethodName := ⟨RX5, "become", "(LWayBoxes$State;)V"⟩
abbrev cX5_textAt : ByteArray := prog_7_method_3_code
def yX5_textAt : MethodName := ⟨RX5, "textAt", "(I)LWayBoxes$Text;"⟩
abbrev cX5_boxAt : ByteArray := prog_7_method_4_code
def yX5_boxAt : MethodName := ⟨RX5, "boxAt", "(I)LWayBoxes$Box;"⟩
abbrev cX5_isInRow : ByteArray := prog_7_method_5_code
def yX5_isInRow : MethodName := ⟨RX5, "isInRow", "(I)Z"⟩
abbrev cX5_isLedToByAnother : ByteArray := prog_7_method_6_code
def yX5_isLedToByAnother : MethodName := ⟨RX5, "isLedToByAnother", "(I)Z"⟩
abbrev cX5_passAlong : ByteArray := prog_7_method_7_code
def yX5_passAlong : MethodName := ⟨RX5, "passAlong", "(LWayBoxes$Packet;)I"⟩
def RX6 : String := "WayBoxes$Text"
def TX6 : u_T := fun k => match k with
  | 0 => ("WayBoxes$Text", "lineCount", "I", false)
  | 1 => ("WayBoxes$Text", "kinds", "[I", true)
  | 2 => ("WayBoxes$Text", "tests", "[I", true)
  | 3 => ("WayBoxes$Text", "acts", "[I", true)
  | 4 => ("WayBoxes$Text", "actCounts", "[I", true)
  | 5 => ("WayBoxes$Text", "signs", "[I", true)
  | 6 => ("WayBoxes$Text", "size", "I", false)
  | 7 => ("WayBoxes$Text", "stands", "I", false)
  | _ => ("WayBoxes$Text", "oneAt", "[I", true)
def tyX6 : Nat → FieldType := fun k => match k with
  | 0 => .int
  | 1 => .array .int
  | 2 => .array .int
  | 3 => .array .int
  | 4 => .array .int
  | 5 => .array .int
  | 6 => .int
  | 7 => .int
  | _ => .array .int
theorem nmX6 : ∀ a, a < 9 → ∀ b, b < 9 → a ≠ b → (TX6 a).2.1 ≠ (TX6 b).2.1 := by decide +kernel
theorem tyX6_ok : ∀ k, k < 9 → parseFieldDescriptor (TX6 k).2.2.1 = some (tyX6 k) := by decide +kernel
abbrev cX6_init : ByteArray := prog_8_method_1_code
def yX6_init : MethodName := ⟨RX6, "<init>", "()V"⟩
abbrev cX6_clear : ByteArray := prog_8_method_2_code
def yX6_clear : MethodName := ⟨RX6, "clear", "()V"⟩
abbrev cX6_add : ByteArray := prog_8_method_3_code
def yX6_add : MethodName := ⟨RX6, "add", "(I)V"⟩
abbrev cX6_countTerms : ByteArray := prog_8_method_4_code
def yX6_countTerms : MethodName := ⟨RX6, "countTerms", "(II)V"⟩
abbrev cX6_signAt : ByteArray := prog_8_method_5_code
def yX6_signAt : MethodName := ⟨RX6, "signAt", "(I)I"⟩
abbrev cX6_note : ByteArray := prog_8_method_6_code
def yX6_note : MethodName := ⟨RX6, "note", "(IZ)V"⟩
abbrev cX6_lineFor : ByteArray := prog_8_method_7_code
def yX6_lineFor : MethodName := ⟨RX6, "lineFor", "(LWayBoxes$Packet;LWayBoxes$Memory;)I"⟩
abbrev cX6_holds : ByteArray := prog_8_method_8_code
def yX6_holds : MethodName := ⟨RX6, "holds", "(ILWayBoxes$Packet;LWayBoxes$Memory;)Z"⟩
abbrev cX6_does : ByteArray := prog_8_method_9_code
def yX6_does : MethodName := ⟨RX6, "does", "(ILWayBoxes$Packet;LWayBoxes$Memory;)I"⟩
abbrev cX6_sumOf : ByteArray := prog_8_method_10_code
def yX6_sumOf : MethodName := ⟨RX6, "sumOf", "(IILWayBoxes$Packet;LWayBoxes$Memory;)I"⟩
abbrev cX6_value : ByteArray := prog_8_method_11_code
def yX6_value : MethodName := ⟨RX6, "value", "(ILWayBoxes$Packet;LWayBoxes$Memory;)I"⟩
def RX7 : String := "WayBoxes$Trace"
def TX7 : u_T := fun k => match k with
  | 0 => ("WayBoxes$Trace", "kept", "[I", true)
  | 1 => ("WayBoxes$Trace", "ran", "I", false)
  | 2 => ("WayBoxes$Trace", "ownKind", "I", false)
  | 3 => ("WayBoxes$Trace", "number", "I", false)
  | _ => ("WayBoxes$Trace", "lineCount", "I", false)
def tyX7 : Nat → FieldType := fun k => match k with
  | 0 => .array .int
  | 1 => .int
  | 2 => .int
  | 3 => .int
  | _ => .int
theorem nmX7 : ∀ a, a < 5 → ∀ b, b < 5 → a ≠ b → (TX7 a).2.1 ≠ (TX7 b).2.1 := by decide +kernel
theorem tyX7_ok : ∀ k, k < 5 → parseFieldDescriptor (TX7 k).2.2.1 = some (tyX7 k) := by decide +kernel
abbrev cX7_init : ByteArray := prog_9_method_1_code
def yX7_init : MethodName := ⟨RX7, "<init>", "()V"⟩
abbrev cX7_become : ByteArray := prog_9_method_2_code
def yX7_become : MethodName := ⟨RX7, "become", "(LWayBoxes$Trace;)V"⟩
abbrev cX7_runs : ByteArray := prog_9_method_3_code
def yX7_runs : MethodName := ⟨RX7, "runs", "(LWayBoxes$Box;III)I"⟩
abbrev cX7_runsFrom : ByteArray := prog_9_method_4_code
def yX7_runsFrom : MethodName := ⟨RX7, "runsFrom", "(IIII)I"⟩
abbrev cX7_answerOf : ByteArray := prog_9_method_5_code
def yX7_answerOf : MethodName := ⟨RX7, "answerOf", "(IIII)I"⟩
def RX8 : String := "WayBoxes$Watch"
def TX8 : u_T := fun k => match k with
  | 0 => ("WayBoxes$Watch", "begun", "I", false)
  | 1 => ("WayBoxes$Watch", "open", "I", false)
  | 2 => ("WayBoxes$Watch", "broken", "I", false)
  | 3 => ("WayBoxes$Watch", "houses", "[I", true)
  | 4 => ("WayBoxes$Watch", "numbers", "[I", true)
  | _ => ("WayBoxes$Watch", "passed", "[I", true)
def tyX8 : Nat → FieldType := fun k => match k with
  | 0 => .int
  | 1 => .int
  | 2 => .int
  | 3 => .array .int
  | 4 => .array .int
  | _ => .array .int
theorem nmX8 : ∀ a, a < 6 → ∀ b, b < 6 → a ≠ b → (TX8 a).2.1 ≠ (TX8 b).2.1 := by decide +kernel
theorem tyX8_ok : ∀ k, k < 6 → parseFieldDescriptor (TX8 k).2.2.1 = some (tyX8 k) := by decide +kernel
abbrev cX8_init : ByteArray := prog_10_method_1_code
def yX8_init : MethodName := ⟨RX8, "<init>", "()V"⟩
abbrev cX8_become : ByteArray := prog_10_method_2_code
def yX8_become : MethodName := ⟨RX8, "become", "(LWayBoxes$Watch;)V"⟩
abbrev cX8_sees : ByteArray := prog_10_method_3_code
def yX8_sees : MethodName := ⟨RX8, "sees", "(LWayBoxes$Packet;III)Z"⟩
abbrev cX8_opensMany : ByteArray := prog_10_method_4_code
def yX8_opensMany : MethodName := ⟨RX8, "opensMany", "(II)Z"⟩
abbrev cX8_isTwice : ByteArray := prog_10_method_5_code
def yX8_isTwice : MethodName := ⟨RX8, "isTwice", "(I)Z"⟩
def RX9 : String := "WayBoxes"
def TX9 : u_T := fun k => match k with
  | 0 => ("WayBoxes", "now", "LWayBoxes$State;", true)
  | 1 => ("WayBoxes", "image", "LWayBoxes$State;", true)
  | 2 => ("WayBoxes", "imaged", "Z", false)
  | 3 => ("WayBoxes", "reader", "LWayBoxes$Reader;", true)
  | _ => ("WayBoxes", "search", "LWayBoxes$Search;", true)
def tyX9 : Nat → FieldType := fun k => match k with
  | 0 => .object "WayBoxes$State"
  | 1 => .object "WayBoxes$State"
  | 2 => .boolean
  | 3 => .object "WayBoxes$Reader"
  | _ => .object "WayBoxes$Search"
theorem nmX9 : ∀ a, a < 5 → ∀ b, b < 5 → a ≠ b → (TX9 a).2.1 ≠ (TX9 b).2.1 := by decide +kernel
theorem tyX9_ok : ∀ k, k < 5 → parseFieldDescriptor (TX9 k).2.2.1 = some (tyX9 k) := by decide +kernel
abbrev cX9_init : ByteArray := prog_1_method_1_code
def yX9_init : MethodName := ⟨RX9, "<init>", "()V"⟩
abbrev cX9_feed : ByteArray := prog_1_method_2_code
def yX9_feed : MethodName := ⟨RX9, "feed", "(JI)I"⟩
abbrev cX9_text : ByteArray := prog_1_method_3_code
def yX9_text : MethodName := ⟨RX9, "text", "()I"⟩
abbrev cX9_lines : ByteArray := prog_1_method_4_code
def yX9_lines : MethodName := ⟨RX9, "lines", "(II)I"⟩
abbrev cX9_part : ByteArray := prog_1_method_5_code
def yX9_part : MethodName := ⟨RX9, "part", "(IIII)I"⟩
abbrev cX9_box : ByteArray := prog_1_method_6_code
def yX9_box : MethodName := ⟨RX9, "box", "(II)I"⟩
abbrev cX9_work : ByteArray := prog_1_method_7_code
def yX9_work : MethodName := ⟨RX9, "work", "(IIIII)I"⟩
abbrev cX9_cell : ByteArray := prog_1_method_8_code
def yX9_cell : MethodName := ⟨RX9, "cell", "(IIII)I"⟩
abbrev cX9_latest : ByteArray := prog_1_method_9_code
def yX9_latest : MethodName := ⟨RX9, "latest", "(I)I"⟩
abbrev cX9_row : ByteArray := prog_1_method_10_code
def yX9_row : MethodName := ⟨RX9, "row", "(I)I"⟩
abbrev cX9_send : ByteArray := prog_1_method_11_code
def yX9_send : MethodName := ⟨RX9, "send", "(IIII)I"⟩
abbrev cX9_lead : ByteArray := prog_1_method_12_code
def yX9_lead : MethodName := ⟨RX9, "lead", "(III)I"⟩
abbrev cX9_led : ByteArray := prog_1_method_13_code
def yX9_led : MethodName := ⟨RX9, "led", "(II)I"⟩
abbrev cX9_hold : ByteArray := prog_1_method_14_code
def yX9_hold : MethodName := ⟨RX9, "hold", "(I)I"⟩
abbrev cX9_release : ByteArray := prog_1_method_15_code
def yX9_release : MethodName := ⟨RX9, "release", "()I"⟩
abbrev cX9_whole : ByteArray := prog_1_method_16_code
def yX9_whole : MethodName := ⟨RX9, "whole", "(III)I"⟩
abbrev cX9_copy : ByteArray := prog_1_method_17_code
def yX9_copy : MethodName := ⟨RX9, "copy", "(I)I"⟩
abbrev cX9_fall : ByteArray := prog_1_method_18_code
def yX9_fall : MethodName := ⟨RX9, "fall", "(I)I"⟩
abbrev cX9_letter : ByteArray := prog_1_method_19_code
def yX9_letter : MethodName := ⟨RX9, "letter", "(IIII)I"⟩
abbrev cX9_shown : ByteArray := prog_1_method_20_code
def yX9_shown : MethodName := ⟨RX9, "shown", "(IIIII)I"⟩
abbrev cX9_ways : ByteArray := prog_1_method_21_code
def yX9_ways : MethodName := ⟨RX9, "ways", "(IIII)I"⟩
abbrev cX9_orders : ByteArray := prog_1_method_22_code
def yX9_orders : MethodName := ⟨RX9, "orders", "(IIIII)I"⟩
abbrev cX9_act : ByteArray := prog_1_method_23_code
def yX9_act : MethodName := ⟨RX9, "act", "(III)I"⟩
abbrev cX9_trace : ByteArray := prog_1_method_24_code
def yX9_trace : MethodName := ⟨RX9, "trace", "(I)I"⟩
abbrev cX9_as : ByteArray := prog_1_method_25_code
def yX9_as : MethodName := ⟨RX9, "as", "(II)I"⟩
abbrev cX9_image : ByteArray := prog_1_method_26_code
def yX9_image : MethodName := ⟨RX9, "image", "()I"⟩
abbrev cX9_undo : ByteArray := prog_1_method_27_code
def yX9_undo : MethodName := ⟨RX9, "undo", "()I"⟩
abbrev cX9_count : ByteArray := prog_1_method_28_code
def yX9_count : MethodName := ⟨RX9, "count", "(I)I"⟩
abbrev cX9_refusalOf : ByteArray := prog_1_method_29_code
def yX9_refusalOf : MethodName := ⟨RX9, "refusalOf", "(IIII)I"⟩
abbrev cX9_isTalk : ByteArray := prog_1_method_30_code
def yX9_isTalk : MethodName := ⟨RX9, "isTalk", "(I)Z"⟩
abbrev cX9_areTalks : ByteArray := prog_1_method_31_code
def yX9_areTalks : MethodName := ⟨RX9, "areTalks", "(I)Z"⟩
abbrev cX9_isN : ByteArray := prog_1_method_32_code
def yX9_isN : MethodName := ⟨RX9, "isN", "(I)Z"⟩
abbrev cX9_isForm : ByteArray := prog_1_method_33_code
def yX9_isForm : MethodName := ⟨RX9, "isForm", "(I)Z"⟩
abbrev cX9_isDepth : ByteArray := prog_1_method_34_code
def yX9_isDepth : MethodName := ⟨RX9, "isDepth", "(I)Z"⟩
abbrev cX9_placeOf : ByteArray := prog_1_method_35_code
def yX9_placeOf : MethodName := ⟨RX9, "placeOf", "(III)I"⟩
def RX10 : String := "WayBoxesModel"
def TX10 : u_T := fun k => match k with
  | 0 => ("WayBoxesModel", "thrown", "I", false)
  | 1 => ("WayBoxesModel", "s", "[I", true)
  | 2 => ("WayBoxesModel", "image", "[I", true)
  | 3 => ("WayBoxesModel", "hasImage", "Z", false)
  | 4 => ("WayBoxesModel", "steps", "[I", true)
  | 5 => ("WayBoxesModel", "stepMany", "[I", true)
  | 6 => ("WayBoxesModel", "lineMany", "[I", true)
  | 7 => ("WayBoxesModel", "actMany", "[I", true)
  | 8 => ("WayBoxesModel", "parts", "[I", true)
  | 9 => ("WayBoxesModel", "act", "I", false)
  | 10 => ("WayBoxesModel", "spot", "I", false)
  | 11 => ("WayBoxesModel", "size", "I", false)
  | 12 => ("WayBoxesModel", "isWrong", "Z", false)
  | 13 => ("WayBoxesModel", "open", "I", false)
  | 14 => ("WayBoxesModel", "lineNow", "I", false)
  | 15 => ("WayBoxesModel", "memory", "[I", true)
  | 16 => ("WayBoxesModel", "truths", "[Z", true)
  | 17 => ("WayBoxesModel", "talk", "I", false)
  | 18 => ("WayBoxesModel", "house", "I", false)
  | 19 => ("WayBoxesModel", "kind", "I", false)
  | 20 => ("WayBoxesModel", "number", "I", false)
  | 21 => ("WayBoxesModel", "isTried", "Z", false)
  | 22 => ("WayBoxesModel", "base", "I", false)
  | 23 => ("WayBoxesModel", "lineDone", "I", false)
  | 24 => ("WayBoxesModel", "word", "[I", true)
  | 25 => ("WayBoxesModel", "best", "[I", true)
  | 26 => ("WayBoxesModel", "through", "[I", true)
  | 27 => ("WayBoxesModel", "throughMany", "I", false)
  | 28 => ("WayBoxesModel", "begun", "[Z", true)
  | 29 => ("WayBoxesModel", "isOpen", "[Z", true)
  | 30 => ("WayBoxesModel", "isBroken", "[Z", true)
  | 31 => ("WayBoxesModel", "homes", "[I", true)
  | 32 => ("WayBoxesModel", "numbers", "[I", true)
  | 33 => ("WayBoxesModel", "passed", "[I", true)
  | 34 => ("WayBoxesModel", "told", "[I", true)
  | 35 => ("WayBoxesModel", "order", "[I", true)
  | 36 => ("WayBoxesModel", "firstOrder", "[I", true)
  | 37 => ("WayBoxesModel", "tolds", "I", false)
  | 38 => ("WayBoxesModel", "keeping", "I", false)
  | 39 => ("WayBoxesModel", "bodies", "[I", true)
  | 40 => ("WayBoxesModel", "ran", "I", false)
  | 41 => ("WayBoxesModel", "actKind", "I", false)
  | 42 => ("WayBoxesModel", "who", "I", false)
  | _ => ("WayBoxesModel", "lineNumber", "I", false)
def tyX10 : Nat → FieldType := fun k => match k with
  | 0 => .int
  | 1 => .array .int
  | 2 => .array .int
  | 3 => .boolean
  | 4 => .array .int
  | 5 => .array .int
  | 6 => .array .int
  | 7 => .array .int
  | 8 => .array .int
  | 9 => .int
  | 10 => .int
  | 11 => .int
  | 12 => .boolean
  | 13 => .int
  | 14 => .int
  | 15 => .array .int
  | 16 => .array .boolean
  | 17 => .int
  | 18 => .int
  | 19 => .int
  | 20 => .int
  | 21 => .boolean
  | 22 => .int
  | 23 => .int
  | 24 => .array .int
  | 25 => .array .int
  | 26 => .array .int
  | 27 => .int
  | 28 => .array .boolean
  | 29 => .array .boolean
  | 30 => .array .boolean
  | 31 => .array .int
  | 32 => .array .int
  | 33 => .array .int
  | 34 => .array .int
  | 35 => .array .int
  | 36 => .array .int
  | 37 => .int
  | 38 => .int
  | 39 => .array .int
  | 40 => .int
  | 41 => .int
  | 42 => .int
  | _ => .int
theorem nmX10 : ∀ a, a < 44 → ∀ b, b < 44 → a ≠ b → (TX10 a).2.1 ≠ (TX10 b).2.1 := by decide +kernel
theorem tyX10_ok : ∀ k, k < 44 → parseFieldDescriptor (TX10 k).2.2.1 = some (tyX10 k) := by decide +kernel
abbrev cX10_init : ByteArray := prog_12_method_1_code
def yX10_init : MethodName := ⟨RX10, "<init>", "()V"⟩
abbrev cX10_in : ByteArray := prog_12_method_3_code
def yX10_in : MethodName := ⟨RX10, "in", "(III)Z"⟩
abbrev cX10_isText : ByteArray := prog_12_method_4_code
def yX10_isText : MethodName := ⟨RX10, "isText", "(I)Z"⟩
abbrev cX10_isBox : ByteArray := prog_12_method_5_code
def yX10_isBox : MethodName := ⟨RX10, "isBox", "(I)Z"⟩
abbrev cX10_isTalk : ByteArray := prog_12_method_6_code
def yX10_isTalk : MethodName := ⟨RX10, "isTalk", "(I)Z"⟩
abbrev cX10_isFour : ByteArray := prog_12_method_7_code
def yX10_isFour : MethodName := ⟨RX10, "isFour", "(I)Z"⟩
abbrev cX10_count1 : ByteArray := prog_12_method_8_code
def yX10_count1 : MethodName := ⟨RX10, "count1", "(I)I"⟩
abbrev cX10_feed : ByteArray := prog_12_method_9_code
def yX10_feed : MethodName := ⟨RX10, "feed", "(JI)I"⟩
abbrev cX10_here : ByteArray := prog_12_method_10_code
def yX10_here : MethodName := ⟨RX10, "here", "()I"⟩
abbrev cX10_must : ByteArray := prog_12_method_11_code
def yX10_must : MethodName := ⟨RX10, "must", "(I)V"⟩
abbrev cX10_emits : ByteArray := prog_12_method_12_code
def yX10_emits : MethodName := ⟨RX10, "emits", "(I)V"⟩
abbrev cX10_marks : ByteArray := prog_12_method_13_code
def yX10_marks : MethodName := ⟨RX10, "marks", "(IZ)V"⟩
abbrev cX10_cellHere : ByteArray := prog_12_method_14_code
def yX10_cellHere : MethodName := ⟨RX10, "cellHere", "()I"⟩
abbrev cX10_term : ByteArray := prog_12_method_15_code
def yX10_term : MethodName := ⟨RX10, "term", "()I"⟩
abbrev cX10_factor : ByteArray := prog_12_method_16_code
def yX10_factor : MethodName := ⟨RX10, "factor", "()V"⟩
abbrev cX10_every : ByteArray := prog_12_method_17_code
def yX10_every : MethodName := ⟨RX10, "every", "()V"⟩
abbrev cX10_some : ByteArray := prog_12_method_18_code
def yX10_some : MethodName := ⟨RX10, "some", "()V"⟩
abbrev cX10_sum : ByteArray := prog_12_method_19_code
def yX10_sum : MethodName := ⟨RX10, "sum", "(I)V"⟩
abbrev cX10_actHere : ByteArray := prog_12_method_20_code
def yX10_actHere : MethodName := ⟨RX10, "actHere", "()V"⟩
abbrev cX10_lineHere : ByteArray := prog_12_method_21_code
def yX10_lineHere : MethodName := ⟨RX10, "lineHere", "()V"⟩
abbrev cX10_text : ByteArray := prog_12_method_22_code
def yX10_text : MethodName := ⟨RX10, "text", "()I"⟩
abbrev cX10_lines : ByteArray := prog_12_method_23_code
def yX10_lines : MethodName := ⟨RX10, "lines", "(II)I"⟩
abbrev cX10_part : ByteArray := prog_12_method_24_code
def yX10_part : MethodName := ⟨RX10, "part", "(IIII)I"⟩
abbrev cX10_place : ByteArray := prog_12_method_25_code
def yX10_place : MethodName := ⟨RX10, "place", "(I)I"⟩
abbrev cX10_value : ByteArray := prog_12_method_26_code
def yX10_value : MethodName := ⟨RX10, "value", "(I)I"⟩
abbrev cX10_becomes : ByteArray := prog_12_method_27_code
def yX10_becomes : MethodName := ⟨RX10, "becomes", "(II)V"⟩
abbrev cX10_isSo : ByteArray := prog_12_method_28_code
def yX10_isSo : MethodName := ⟨RX10, "isSo", "(I)Z"⟩
abbrev cX10_acts : ByteArray := prog_12_method_29_code
def yX10_acts : MethodName := ⟨RX10, "acts", "(II)I"⟩
abbrev cX10_works : ByteArray := prog_12_method_30_code
def yX10_works : MethodName := ⟨RX10, "works", "(I)I"⟩
abbrev cX10_packet : ByteArray := prog_12_method_31_code
def yX10_packet : MethodName := ⟨RX10, "packet", "(IIII)V"⟩
abbrev cX10_worksBox : ByteArray := prog_12_method_32_code
def yX10_worksBox : MethodName := ⟨RX10, "worksBox", "(I)I"⟩
abbrev cX10_isPacket : ByteArray := prog_12_method_33_code
def yX10_isPacket : MethodName := ⟨RX10, "isPacket", "(III)Z"⟩
abbrev cX10_box : ByteArray := prog_12_method_34_code
def yX10_box : MethodName := ⟨RX10, "box", "(II)I"⟩
abbrev cX10_work : ByteArray := prog_12_method_35_code
def yX10_work : MethodName := ⟨RX10, "work", "(IIIII)I"⟩
abbrev cX10_cell : ByteArray := prog_12_method_36_code
def yX10_cell : MethodName := ⟨RX10, "cell", "(IIII)I"⟩
abbrev cX10_latest : ByteArray := prog_12_method_37_code
def yX10_latest : MethodName := ⟨RX10, "latest", "(I)I"⟩
abbrev cX10_leading : ByteArray := prog_12_method_38_code
def yX10_leading : MethodName := ⟨RX10, "leading", "(I)I"⟩
abbrev cX10_isLedTo : ByteArray := prog_12_method_39_code
def yX10_isLedTo : MethodName := ⟨RX10, "isLedTo", "(I)Z"⟩
abbrev cX10_row : ByteArray := prog_12_method_40_code
def yX10_row : MethodName := ⟨RX10, "row", "(I)I"⟩
abbrev cX10_sends : ByteArray := prog_12_method_41_code
def yX10_sends : MethodName := ⟨RX10, "sends", "()I"⟩
abbrev cX10_send : ByteArray := prog_12_method_42_code
def yX10_send : MethodName := ⟨RX10, "send", "(IIII)I"⟩
abbrev cX10_isInRow : ByteArray := prog_12_method_43_code
def yX10_isInRow : MethodName := ⟨RX10, "isInRow", "(I)Z"⟩
abbrev cX10_lead : ByteArray := prog_12_method_44_code
def yX10_lead : MethodName := ⟨RX10, "lead", "(III)I"⟩
abbrev cX10_led : ByteArray := prog_12_method_45_code
def yX10_led : MethodName := ⟨RX10, "led", "(II)I"⟩
abbrev cX10_hold : ByteArray := prog_12_method_46_code
def yX10_hold : MethodName := ⟨RX10, "hold", "(I)I"⟩
abbrev cX10_release : ByteArray := prog_12_method_47_code
def yX10_release : MethodName := ⟨RX10, "release", "()I"⟩
abbrev cX10_whole : ByteArray := prog_12_method_48_code
def yX10_whole : MethodName := ⟨RX10, "whole", "(III)I"⟩
abbrev cX10_copy : ByteArray := prog_12_method_49_code
def yX10_copy : MethodName := ⟨RX10, "copy", "(I)I"⟩
abbrev cX10_fall : ByteArray := prog_12_method_50_code
def yX10_fall : MethodName := ⟨RX10, "fall", "(I)I"⟩
abbrev cX10_letter : ByteArray := prog_12_method_51_code
def yX10_letter : MethodName := ⟨RX10, "letter", "(IIII)I"⟩
abbrev cX10_empties : ByteArray := prog_12_method_52_code
def yX10_empties : MethodName := ⟨RX10, "empties", "()V"⟩
abbrev cX10_tries : ByteArray := prog_12_method_53_code
def yX10_tries : MethodName := ⟨RX10, "tries", "(I)I"⟩
abbrev cX10_isKept : ByteArray := prog_12_method_54_code
def yX10_isKept : MethodName := ⟨RX10, "isKept", "(II)Z"⟩
abbrev cX10_keeps : ByteArray := prog_12_method_55_code
def yX10_keeps : MethodName := ⟨RX10, "keeps", "(III)Z"⟩
abbrev cX10_next : ByteArray := prog_12_method_56_code
def yX10_next : MethodName := ⟨RX10, "next", "(I)Z"⟩
abbrev cX10_breach : ByteArray := prog_12_method_57_code
def yX10_breach : MethodName := ⟨RX10, "breach", "(III)I"⟩
abbrev cX10_shown : ByteArray := prog_12_method_58_code
def yX10_shown : MethodName := ⟨RX10, "shown", "(IIIII)I"⟩
abbrev cX10_lastBy : ByteArray := prog_12_method_59_code
def yX10_lastBy : MethodName := ⟨RX10, "lastBy", "(II)I"⟩
abbrev cX10_ways : ByteArray := prog_12_method_60_code
def yX10_ways : MethodName := ⟨RX10, "ways", "(IIII)I"⟩
abbrev cX10_arranges : ByteArray := prog_12_method_61_code
def yX10_arranges : MethodName := ⟨RX10, "arranges", "(IIIII)V"⟩
abbrev cX10_orders : ByteArray := prog_12_method_62_code
def yX10_orders : MethodName := ⟨RX10, "orders", "(IIIII)I"⟩
abbrev cX10_runs : ByteArray := prog_12_method_63_code
def yX10_runs : MethodName := ⟨RX10, "runs", "(I)V"⟩
abbrev cX10_isUnder : ByteArray := prog_12_method_64_code
def yX10_isUnder : MethodName := ⟨RX10, "isUnder", "(II)Z"⟩
abbrev cX10_plainKeeps : ByteArray := prog_12_method_65_code
def yX10_plainKeeps : MethodName := ⟨RX10, "plainKeeps", "(I)I"⟩
abbrev cX10_keepsActs : ByteArray := prog_12_method_66_code
def yX10_keepsActs : MethodName := ⟨RX10, "keepsActs", "(I)I"⟩
abbrev cX10_plainWorks : ByteArray := prog_12_method_67_code
def yX10_plainWorks : MethodName := ⟨RX10, "plainWorks", "(I)I"⟩
abbrev cX10_worksActs : ByteArray := prog_12_method_68_code
def yX10_worksActs : MethodName := ⟨RX10, "worksActs", "(I)I"⟩
abbrev cX10_plainLeads : ByteArray := prog_12_method_69_code
def yX10_plainLeads : MethodName := ⟨RX10, "plainLeads", "(I)I"⟩
abbrev cX10_leadsActs : ByteArray := prog_12_method_70_code
def yX10_leadsActs : MethodName := ⟨RX10, "leadsActs", "(I)I"⟩
abbrev cX10_act : ByteArray := prog_12_method_71_code
def yX10_act : MethodName := ⟨RX10, "act", "(III)I"⟩
abbrev cX10_trace : ByteArray := prog_12_method_72_code
def yX10_trace : MethodName := ⟨RX10, "trace", "(I)I"⟩
abbrev cX10_as : ByteArray := prog_12_method_73_code
def yX10_as : MethodName := ⟨RX10, "as", "(II)I"⟩
abbrev cX10_image : ByteArray := prog_12_method_74_code
def yX10_image : MethodName := ⟨RX10, "image", "()I"⟩
abbrev cX10_undo : ByteArray := prog_12_method_75_code
def yX10_undo : MethodName := ⟨RX10, "undo", "()I"⟩
abbrev cX10_count : ByteArray := prog_12_method_76_code
def yX10_count : MethodName := ⟨RX10, "count", "(I)I"⟩
def RJ6 : String := "java/lang/Integer"
abbrev cJ6_bitCount_0f7a4 : ByteArray := prog_13_method_49_code
def yJ6_bitCount_0f7a4 : MethodName := ⟨RJ6, "bitCount", "(I)I"⟩
def RJ7 : String := "java/util/Arrays"
abbrev cJ7_fill_53178 : ByteArray := prog_15_method_103_code
def yJ7_fill_53178 : MethodName := ⟨RJ7, "fill", "([II)V"⟩
def RL : String := "WayBoxesLaw"
abbrev cL_law : ByteArray := code
def yL_law : MethodName := ⟨RL, "law", "([I)Z"⟩
abbrev vwCl : List vw_C := [(RX0, TX0, 8), (RX1, TX1, 1), (RX2, TX2, 4), (RX3, TX3, 4), (RX4, TX4, 10), (RX5, TX5, 14), (RX6, TX6, 9), (RX7, TX7, 5), (RX8, TX8, 6), (RX9, TX9, 5), (RX10, TX10, 44)]
end
section
/-! the methods by number: name, code, locals, answer, class, how many arguments -/
def m_yL : List MethodName := [yX0_init, yX0_begin, yX0_become, yX0_steps, yX0_ledAway, yX0_leadsTo, yX1_init, yX1_clear, yX1_become, yX1_at, yX1_put, yX1_forgetTalk, yX1_takeTalk, yX1_hasTalkOf, yX1_isSumOf, yX2_init, yX3_init, yX3_reads, yX3_handsOver, yX3_readsKind, yX3_readsE, yX3_readsT, yX3_readsF, yX3_readsTest, yX3_readsActs, yX3_readsAct, yX3_readsSum, yX3_term, yX3_takesDigit, yX3_next, yX3_takes, yX4_init, yX4_begin, yX4_add, yX4_shortest, yX4_finds, yX4_breaks, yX4_partsWays, yX4_carried, yX4_turnsToNextOrder, yX4_swap, yX5_init, yX5_become, yX5_textAt, yX5_boxAt, yX5_isInRow, yX5_isLedToByAnother, yX5_passAlong, yX6_init, yX6_clear, yX6_add, yX6_countTerms, yX6_signAt, yX6_note, yX6_lineFor, yX6_holds, yX6_does, yX6_sumOf, yX6_value, yX7_init, yX7_become, yX7_runs, yX7_runsFrom, yX7_answerOf, yX8_init, yX8_become, yX8_sees, yX8_opensMany, yX8_isTwice, yX9_init, yX9_feed, yX9_text, yX9_lines, yX9_part, yX9_box, yX9_work, yX9_cell, yX9_latest, yX9_row, yX9_send, yX9_lead, yX9_led, yX9_hold, yX9_release, yX9_whole, yX9_copy, yX9_fall, yX9_letter, yX9_shown, yX9_ways, yX9_orders, yX9_act, yX9_trace, yX9_as, yX9_image, yX9_undo, yX9_count, yX9_refusalOf, yX9_isTalk, yX9_areTalks, yX9_isN, yX9_isForm, yX9_isDepth, yX9_placeOf, yX10_init, yX10_in, yX10_isText, yX10_isBox, yX10_isTalk, yX10_isFour, yX10_count1, yX10_feed, yX10_here, yX10_must, yX10_emits, yX10_marks, yX10_cellHere, yX10_term, yX10_factor, yX10_every, yX10_some, yX10_sum, yX10_actHere, yX10_lineHere, yX10_text, yX10_lines, yX10_part, yX10_place, yX10_value, yX10_becomes, yX10_isSo, yX10_acts, yX10_works, yX10_packet, yX10_worksBox, yX10_isPacket, yX10_box, yX10_work, yX10_cell, yX10_latest, yX10_leading, yX10_isLedTo, yX10_row, yX10_sends, yX10_send, yX10_isInRow, yX10_lead, yX10_led, yX10_hold, yX10_release, yX10_whole, yX10_copy, yX10_fall, yX10_letter, yX10_empties, yX10_tries, yX10_isKept, yX10_keeps, yX10_next, yX10_breach, yX10_shown, yX10_lastBy, yX10_ways, yX10_arranges, yX10_orders, yX10_runs, yX10_isUnder, yX10_plainKeeps, yX10_keepsActs, yX10_plainWorks, yX10_worksActs, yX10_plainLeads, yX10_leadsActs, yX10_act, yX10_trace, yX10_as, yX10_image, yX10_undo, yX10_count, yJ6_bitCount_0f7a4, yJ7_fill_53178, yL_law]
def m_bL : List ByteArray := [cX0_init, cX0_begin, cX0_become, cX0_steps, cX0_ledAway, cX0_leadsTo, cX1_init, cX1_clear, cX1_become, cX1_at, cX1_put, cX1_forgetTalk, cX1_takeTalk, cX1_hasTalkOf, cX1_isSumOf, cX2_init, cX3_init, cX3_reads, cX3_handsOver, cX3_readsKind, cX3_readsE, cX3_readsT, cX3_readsF, cX3_readsTest, cX3_readsActs, cX3_readsAct, cX3_readsSum, cX3_term, cX3_takesDigit, cX3_next, cX3_takes, cX4_init, cX4_begin, cX4_add, cX4_shortest, cX4_finds, cX4_breaks, cX4_partsWays, cX4_carried, cX4_turnsToNextOrder, cX4_swap, cX5_init, cX5_become, cX5_textAt, cX5_boxAt, cX5_isInRow, cX5_isLedToByAnother, cX5_passAlong, cX6_init, cX6_clear, cX6_add, cX6_countTerms, cX6_signAt, cX6_note, cX6_lineFor, cX6_holds, cX6_does, cX6_sumOf, cX6_value, cX7_init, cX7_become, cX7_runs, cX7_runsFrom, cX7_answerOf, cX8_init, cX8_become, cX8_sees, cX8_opensMany, cX8_isTwice, cX9_init, cX9_feed, cX9_text, cX9_lines, cX9_part, cX9_box, cX9_work, cX9_cell, cX9_latest, cX9_row, cX9_send, cX9_lead, cX9_led, cX9_hold, cX9_release, cX9_whole, cX9_copy, cX9_fall, cX9_letter, cX9_shown, cX9_ways, cX9_orders, cX9_act, cX9_trace, cX9_as, cX9_image, cX9_undo, cX9_count, cX9_refusalOf, cX9_isTalk, cX9_areTalks, cX9_isN, cX9_isForm, cX9_isDepth, cX9_placeOf, cX10_init, cX10_in, cX10_isText, cX10_isBox, cX10_isTalk, cX10_isFour, cX10_count1, cX10_feed, cX10_here, cX10_must, cX10_emits, cX10_marks, cX10_cellHere, cX10_term, cX10_factor, cX10_every, cX10_some, cX10_sum, cX10_actHere, cX10_lineHere, cX10_text, cX10_lines, cX10_part, cX10_place, cX10_value, cX10_becomes, cX10_isSo, cX10_acts, cX10_works, cX10_packet, cX10_worksBox, cX10_isPacket, cX10_box, cX10_work, cX10_cell, cX10_latest, cX10_leading, cX10_isLedTo, cX10_row, cX10_sends, cX10_send, cX10_isInRow, cX10_lead, cX10_led, cX10_hold, cX10_release, cX10_whole, cX10_copy, cX10_fall, cX10_letter, cX10_empties, cX10_tries, cX10_isKept, cX10_keeps, cX10_next, cX10_breach, cX10_shown, cX10_lastBy, cX10_ways, cX10_arranges, cX10_orders, cX10_runs, cX10_isUnder, cX10_plainKeeps, cX10_keepsActs, cX10_plainWorks, cX10_worksActs, cX10_plainLeads, cX10_leadsActs, cX10_act, cX10_trace, cX10_as, cX10_image, cX10_undo, cX10_count, cJ6_bitCount_0f7a4, cJ7_fill_53178, cL_law]
def m_nlL : List Nat := [1, 4, 2, 3, 3, 3, 1, 1, 2, 2, 3, 3, 4, 4, 4, 5, 1, 4, 2, 3, 2, 2, 4, 4, 3, 3, 7, 4, 3, 1, 2, 2, 5, 3, 3, 6, 6, 8, 4, 5, 5, 2, 3, 2, 2, 3, 3, 6, 1, 1, 2, 3, 2, 4, 5, 10, 9, 8, 3, 1, 2, 5, 7, 5, 1, 2, 6, 5, 4, 1, 5, 3, 4, 7, 3, 8, 6, 3, 2, 8, 8, 4, 2, 3, 9, 3, 5, 6, 8, 8, 10, 6, 2, 6, 1, 1, 2, 4, 1, 1, 1, 1, 1, 3, 1, 3, 2, 2, 1, 1, 3, 5, 1, 2, 2, 4, 3, 4, 5, 1, 1, 6, 3, 5, 2, 3, 6, 2, 2, 3, 6, 7, 12, 5, 3, 3, 5, 6, 6, 2, 4, 5, 2, 3, 6, 4, 7, 3, 2, 5, 7, 3, 4, 6, 2, 5, 6, 6, 3, 6, 7, 5, 7, 7, 7, 2, 2, 2, 2, 2, 2, 2, 3, 4, 2, 3, 2, 2, 2, 1, 4, 4]
def m_rtL : List (Option FieldType) := [none, none, none, some .int, some .int, some .boolean, none, none, none, some .int, none, none, none, some .boolean, some .boolean, none, none, some (.object "WayBoxes$Text"), some (.object "WayBoxes$Text"), some .boolean, some .boolean, some .boolean, some .boolean, some .boolean, some .boolean, some .boolean, some .boolean, some .int, some .int, some .int, some .boolean, none, none, none, some .int, some .boolean, some .boolean, some .boolean, some (.object "WayBoxes$Memory"), some .boolean, none, none, none, some (.object "WayBoxes$Text"), some (.object "WayBoxes$Box"), some .boolean, some .boolean, some .int, none, none, none, none, some .int, none, some .int, some .boolean, some .int, some .int, some .int, none, none, some .int, some .int, some .int, none, none, some .boolean, some .boolean, some .boolean, none, some .int, some .int, some .int, some .int, some .int, some .int, some .int, some .int, some .int, some .int, some .int, some .int, some .int, some .int, some .int, some .int, some .int, some .int, some .int, some .int, some .int, some .int, some .int, some .int, some .int, some .int, some .int, some .int, some .boolean, some .boolean, some .boolean, some .boolean, some .boolean, some .int, none, some .boolean, some .boolean, some .boolean, some .boolean, some .boolean, some .int, some .int, some .int, none, none, none, some .int, some .int, none, none, none, none, none, none, some .int, some .int, some .int, some .int, some .int, none, some .boolean, some .int, some .int, none, some .int, some .boolean, some .int, some .int, some .int, some .int, some .int, some .boolean, some .int, some .int, some .int, some .boolean, some .int, some .int, some .int, some .int, some .int, some .int, some .int, some .int, none, some .int, some .boolean, some .boolean, some .boolean, some .int, some .int, some .int, some .int, none, some .int, none, some .boolean, some .int, some .int, some .int, some .int, some .int, some .int, some .int, some .int, some .int, some .int, some .int, some .int, some .int, none, some .boolean]
def m_ocL : List Nat := [0, 0, 0, 0, 0, 0, 1, 1, 1, 1, 1, 1, 1, 1, 1, 2, 3, 3, 3, 3, 3, 3, 3, 3, 3, 3, 3, 3, 3, 3, 3, 4, 4, 4, 4, 4, 4, 4, 4, 4, 4, 5, 5, 5, 5, 5, 5, 5, 6, 6, 6, 6, 6, 6, 6, 6, 6, 6, 6, 7, 7, 7, 7, 7, 8, 8, 8, 8, 8, 9, 9, 9, 9, 9, 9, 9, 9, 9, 9, 9, 9, 9, 9, 9, 9, 9, 9, 9, 9, 9, 9, 9, 9, 9, 9, 9, 9, 9, 9, 9, 9, 9, 9, 9, 10, 10, 10, 10, 10, 10, 10, 10, 10, 10, 10, 10, 10, 10, 10, 10, 10, 10, 10, 10, 10, 10, 10, 10, 10, 10, 10, 10, 10, 10, 10, 10, 10, 10, 10, 10, 10, 10, 10, 10, 10, 10, 10, 10, 10, 10, 10, 10, 10, 10, 10, 10, 10, 10, 10, 10, 10, 10, 10, 10, 10, 10, 10, 10, 10, 10, 10, 10, 10, 10, 10, 10, 10, 10, 10, 12, 13, 11]
def m_naL : List Nat := [0, 3, 1, 2, 0, 1, 0, 0, 1, 1, 2, 1, 2, 2, 2, 4, 0, 2, 0, 1, 1, 1, 1, 0, 1, 0, 1, 0, 1, 0, 1, 0, 4, 2, 1, 3, 2, 2, 2, 0, 2, 0, 1, 1, 1, 1, 1, 1, 0, 0, 1, 2, 1, 2, 2, 3, 3, 4, 3, 0, 1, 4, 4, 4, 0, 1, 4, 2, 1, 0, 2, 0, 2, 4, 2, 5, 4, 1, 1, 4, 3, 2, 1, 0, 3, 1, 1, 4, 5, 4, 5, 3, 1, 2, 0, 0, 1, 4, 1, 1, 1, 1, 1, 3, 0, 3, 1, 1, 1, 1, 1, 2, 0, 1, 1, 2, 0, 0, 0, 0, 0, 1, 0, 0, 0, 2, 4, 1, 1, 2, 1, 2, 1, 4, 1, 3, 2, 5, 4, 1, 1, 1, 1, 0, 4, 1, 3, 2, 1, 0, 3, 1, 1, 4, 0, 1, 2, 3, 1, 3, 5, 2, 4, 5, 5, 1, 2, 1, 1, 1, 1, 1, 1, 3, 1, 2, 0, 0, 1, 1, 2, 1]
def m_cnL : List String := [RX0, RX1, RX2, RX3, RX4, RX5, RX6, RX7, RX8, RX9, RX10, RL, RJ6, RJ7]
def m_y (i : Nat) : MethodName := m_yL.getD i yL_law
def m_b (i : Nat) : ByteArray := m_bL.getD i cL_law
def m_nl (i : Nat) : Nat := m_nlL.getD i 0
def m_rt (i : Nat) : Option FieldType := m_rtL.getD i none
def m_oc (i : Nat) : Nat := m_ocL.getD i 99
def m_na (i : Nat) : Nat := m_naL.getD i 0
def m_cn (i : Nat) : String := m_cnL.getD i ""
-- 0 X0_init
-- 1 X0_begin
-- 2 X0_become
-- 3 X0_steps
-- 4 X0_ledAway
-- 5 X0_leadsTo
-- 6 X1_init
-- 7 X1_clear
-- 8 X1_become
-- 9 X1_at
-- 10 X1_put
-- 11 X1_forgetTalk
-- 12 X1_takeTalk
-- 13 X1_hasTalkOf
-- 14 X1_isSumOf
-- 15 X2_init
-- 16 X3_init
-- 17 X3_reads
-- 18 X3_handsOver
-- 19 X3_readsKind
-- 20 X3_readsE
-- 21 X3_readsT
-- 22 X3_readsF
-- 23 X3_readsTest
-- 24 X3_readsActs
-- 25 X3_readsAct
-- 26 X3_readsSum
-- 27 X3_term
-- 28 X3_takesDigit
-- 29 X3_next
-- 30 X3_takes
-- 31 X4_init
-- 32 X4_begin
-- 33 X4_add
-- 34 X4_shortest
-- 35 X4_finds
-- 36 X4_breaks
-- 37 X4_partsWays
-- 38 X4_carried
-- 39 X4_turnsToNextOrder
-- 40 X4_swap
-- 41 X5_init
-- 42 X5_become
-- 43 X5_textAt
-- 44 X5_boxAt
-- 45 X5_isInRow
-- 46 X5_isLedToByAnother
-- 47 X5_passAlong
-- 48 X6_init
-- 49 X6_clear
-- 50 X6_add
-- 51 X6_countTerms
-- 52 X6_signAt
-- 53 X6_note
-- 54 X6_lineFor
-- 55 X6_holds
-- 56 X6_does
-- 57 X6_sumOf
-- 58 X6_value
-- 59 X7_init
-- 60 X7_become
-- 61 X7_runs
-- 62 X7_runsFrom
-- 63 X7_answerOf
-- 64 X8_init
-- 65 X8_become
-- 66 X8_sees
-- 67 X8_opensMany
-- 68 X8_isTwice
-- 69 X9_init
-- 70 X9_feed
-- 71 X9_text
-- 72 X9_lines
-- 73 X9_part
-- 74 X9_box
-- 75 X9_work
-- 76 X9_cell
-- 77 X9_latest
-- 78 X9_row
-- 79 X9_send
-- 80 X9_lead
-- 81 X9_led
-- 82 X9_hold
-- 83 X9_release
-- 84 X9_whole
-- 85 X9_copy
-- 86 X9_fall
-- 87 X9_letter
-- 88 X9_shown
-- 89 X9_ways
-- 90 X9_orders
-- 91 X9_act
-- 92 X9_trace
-- 93 X9_as
-- 94 X9_image
-- 95 X9_undo
-- 96 X9_count
-- 97 X9_refusalOf
-- 98 X9_isTalk
-- 99 X9_areTalks
-- 100 X9_isN
-- 101 X9_isForm
-- 102 X9_isDepth
-- 103 X9_placeOf
-- 104 X10_init
-- 105 X10_in
-- 106 X10_isText
-- 107 X10_isBox
-- 108 X10_isTalk
-- 109 X10_isFour
-- 110 X10_count1
-- 111 X10_feed
-- 112 X10_here
-- 113 X10_must
-- 114 X10_emits
-- 115 X10_marks
-- 116 X10_cellHere
-- 117 X10_term
-- 118 X10_factor
-- 119 X10_every
-- 120 X10_some
-- 121 X10_sum
-- 122 X10_actHere
-- 123 X10_lineHere
-- 124 X10_text
-- 125 X10_lines
-- 126 X10_part
-- 127 X10_place
-- 128 X10_value
-- 129 X10_becomes
-- 130 X10_isSo
-- 131 X10_acts
-- 132 X10_works
-- 133 X10_packet
-- 134 X10_worksBox
-- 135 X10_isPacket
-- 136 X10_box
-- 137 X10_work
-- 138 X10_cell
-- 139 X10_latest
-- 140 X10_leading
-- 141 X10_isLedTo
-- 142 X10_row
-- 143 X10_sends
-- 144 X10_send
-- 145 X10_isInRow
-- 146 X10_lead
-- 147 X10_led
-- 148 X10_hold
-- 149 X10_release
-- 150 X10_whole
-- 151 X10_copy
-- 152 X10_fall
-- 153 X10_letter
-- 154 X10_empties
-- 155 X10_tries
-- 156 X10_isKept
-- 157 X10_keeps
-- 158 X10_next
-- 159 X10_breach
-- 160 X10_shown
-- 161 X10_lastBy
-- 162 X10_ways
-- 163 X10_arranges
-- 164 X10_orders
-- 165 X10_runs
-- 166 X10_isUnder
-- 167 X10_plainKeeps
-- 168 X10_keepsActs
-- 169 X10_plainWorks
-- 170 X10_worksActs
-- 171 X10_plainLeads
-- 172 X10_leadsActs
-- 173 X10_act
-- 174 X10_trace
-- 175 X10_as
-- 176 X10_image
-- 177 X10_undo
-- 178 X10_count
-- 179 J6_bitCount_0f7a4
-- 180 J7_fill_53178
-- 181 L_law
end
section
/-! A SMALL MACHINE: the bytecode's instructions as a function over a plain heap (a list of cells: a number for the class, and the values); references are numbers counted from the law's entry on, those from 1000000 on are the script and the two constant rows. -/
abbrev m_H : Type := List (Nat × List Value)
abbrev m_L : Type := List (Nat × Value)
abbrev m_E : Type := Instr × Nat × Int × Nat
abbrev m_R : Type := Option Value × m_H
abbrev m_C : Type := Nat × m_L × List Value × m_H
def m_nth {α : Type} : List α → Nat → Option α
  | [], _ => none
  | a :: _, 0 => some a
  | _ :: r, n + 1 => m_nth r n
theorem m_nth_eq {α : Type} (l : List α) (n : Nat) : m_nth l n = l[n]? := by
  induction l generalizing n with
  | nil => simp [m_nth]
  | cons a r ih => cases n <;> simp [m_nth, ih]
def m_lg : m_L → Nat → Option Value
  | [], _ => none
  | (j, v) :: r, i => if j = i then some v else m_lg r i
theorem m_lg_mem {l : m_L} {i : Nat} {v : Value} (h : m_lg l i = some v) : (i, v) ∈ l := by
  induction l with
  | nil => simp [m_lg] at h
  | cons a r ih =>
    obtain ⟨j, w⟩ := a
    simp only [m_lg] at h
    split at h
    · rename_i e
      cases h
      subst e
      exact List.mem_cons_self
    · exact List.mem_cons_of_mem _ (ih h)
def m_st (lv : m_L) (i : Nat) (v : Value) : m_L := (i, v) :: lv.filter (fun q => !(q.1 == i) && !(q.1 + 1 == i && q.2.category == 2))
def m_ix (i : Int32) : Option Nat := if i < 0 then none else some i.toNatClampNeg
def m_ob (h : m_H) (k : Nat) : Option (Nat × List Value) := if k < 1000000 then m_nth h k else none
/-- what a field of a kind may hold: 0 int, 1 boolean, 2 a reference -/
def m_fit (ty : Nat) (v : Value) : Bool := match v with
  | .int x => ty == 0 || (ty == 1 && (x == 0 || x == 1))
  | .null => ty == 2
  | .ref _ => ty == 2
  | _ => false
/-- an array's elements -/
def m_el (X : Nat → List Int32) (h : m_H) (tag k : Nat) (i : Int32) : Option Value :=
  match m_ix i with
  | none => none
  | some j => if k < 1000000 then (match m_nth h k with
    | some (t, vs) => if t = tag then m_nth vs j else none
    | none => none) else if tag = 20 ∧ k - 1000000 < 3 ∧ X 3 = [] then (m_nth (X (k - 1000000)) j).map Value.int else none
/-- an array with an element changed -/
def m_se (h : m_H) (tag k : Nat) (i : Int32) (v : Value) : Option m_H :=
  match m_ix i with
  | none => none
  | some j => match m_ob h k with
    | some (t, vs) => if t = tag ∧ j < vs.length then some (h.set k (tag, vs.set j v)) else none
    | none => none
def m_ln (X : Nat → List Int32) (h : m_H) (k : Nat) : Option Int32 :=
  if k < 1000000 then (match m_nth h k with
    | some (t, vs) => if 20 ≤ t ∧ t ≤ 26 then some (Int32.ofNat vs.length) else none
    | none => none) else if k - 1000000 < 3 ∧ X 3 = [] then some (Int32.ofNat (X (k - 1000000)).length) else none
/-- the class of the elements of an array of references -/
def m_cmp (tag : Nat) : Nat := match tag with
  | 22 => 6
  | 23 => 0
  | 24 => 2
  | 25 => 1
  | 26 => 8
  | _ => 99
def m_asg (h : m_H) (tag : Nat) (v : Value) : Bool := match v with
  | .null => true
  | .ref q => (match m_ob h q with
    | some (t, _) => t == m_cmp tag
    | none => false)
  | _ => false
/-- System.arraycopy of rows of ints -/
def m_acp (h : m_H) (a : Nat) (sp : Int32) (b : Nat) (dp n : Int32) : Option m_H :=
  match m_ix sp, m_ix dp, m_ix n with
  | some i, some j, some w => (match m_ob h a, m_ob h b with
    | some (t, us), some (t', vs) => if t = 20 ∧ t' = 20 ∧ i + w ≤ us.length ∧ j + w ≤ vs.length then some (h.set b (20, vs.take j ++ ((us.drop i).take w ++ vs.drop (j + w)))) else none
    | _, _ => none)
  | _, _, _ => none
def m_add (h : m_H) (tag : Nat) (vs : List Value) : Option m_H := if h.length < 1000000 then some (h ++ [(tag, vs)]) else none
/-- the fields of a new object, by its class -/
def m_dfl : Nat → List Value
  | 0 => [.int 0, .int 0, .int 0, .int 0, .int 0, .null, .null, .null]
  | 1 => [.null]
  | 2 => [.int 0, .int 0, .int 0, .int 0]
  | 3 => [.null, .int 0, .int 0, .null]
  | 4 => [.null, .null, .null, .null, .int 0, .null, .int 0, .int 0, .int 0, .null]
  | 5 => [.null, .int 0, .null, .int 0, .null, .int 0, .null, .int 0, .null, .int 0, .int 0, .null, .int 0, .null]
  | 6 => [.int 0, .null, .null, .null, .null, .null, .int 0, .int 0, .null]
  | 7 => [.null, .int 0, .int 0, .int 0, .int 0]
  | 8 => [.int 0, .int 0, .int 0, .null, .null, .null]
  | 9 => [.null, .null, .int 0, .null, .null]
  | 10 => [.int 0, .null, .null, .int 0, .null, .null, .null, .null, .null, .int 0, .int 0, .int 0, .int 0, .int 0, .int 0, .null, .null, .int 0, .int 0, .int 0, .int 0, .int 0, .int 0, .int 0, .null, .null, .null, .int 0, .null, .null, .null, .null, .null, .null, .null, .null, .null, .int 0, .int 0, .null, .int 0, .int 0, .int 0, .int 0]
  | _ => []
def m_go (pc : Nat) (off : Int) : Option Nat := if 0 ≤ (pc : Int) + off then some ((pc : Int) + off).toNat else none
abbrev m_nx (pc : Nat) (lv : m_L) (st : List Value) (h : m_H) : Option (m_C ⊕ m_R) := some (.inl (pc, lv, st, h))
/-- one instruction: the next place, or the method's end; call: what a called method does -/
def m_stp (X : Nat → List Int32) (call : Nat → List Value → m_H → Option m_R) (en : m_E) (pc : Nat) (lv : m_L) (st : List Value) (h : m_H) : Option (m_C ⊕ m_R) :=
  match en with
  | (ins, len, a, b) =>
  match ins with
  | .iconst n => m_nx (pc + len) lv (.int (Int32.ofInt n) :: st) h
  | .bipush n => m_nx (pc + len) lv (.int (Int8.ofInt n).toInt32 :: st) h
  | .sipush n => m_nx (pc + len) lv (.int (Int16.ofInt n).toInt32 :: st) h
  | .ldc _ => m_nx (pc + len) lv (.int (Int32.ofInt a) :: st) h
  | .ldc_w _ => m_nx (pc + len) lv (.int (Int32.ofInt a) :: st) h
  | .ldc2_w _ => m_nx (pc + len) lv (.long (Int64.ofInt a) :: st) h
  | .aconst_null => m_nx (pc + len) lv (.null :: st) h
  | .iload_n k => (match m_lg lv k.val with
    | some (.int x) => m_nx (pc + len) lv (.int x :: st) h
    | _ => none)
  | .iload k => (match m_lg lv k with
    | some (.int x) => m_nx (pc + len) lv (.int x :: st) h
    | _ => none)
  | .lload_n k => (match m_lg lv k.val with
    | some (.long x) => m_nx (pc + len) lv (.long x :: st) h
    | _ => none)
  | .lload k => (match m_lg lv k with
    | some (.long x) => m_nx (pc + len) lv (.long x :: st) h
    | _ => none)
  | .aload_n k => (match m_lg lv k.val with
    | some (.ref x) => m_nx (pc + len) lv (.ref x :: st) h
    | some .null => m_nx (pc + len) lv (.null :: st) h
    | _ => none)
  | .aload k => (match m_lg lv k with
    | some (.ref x) => m_nx (pc + len) lv (.ref x :: st) h
    | some .null => m_nx (pc + len) lv (.null :: st) h
    | _ => none)
  | .istore_n k => (match st with
    | .int x :: r => m_nx (pc + len) (m_st lv k.val (.int x)) r h
    | _ => none)
  | .istore k => (match st with
    | .int x :: r => m_nx (pc + len) (m_st lv k (.int x)) r h
    | _ => none)
  | .astore_n k => (match st with
    | .ref x :: r => m_nx (pc + len) (m_st lv k.val (.ref x)) r h
    | .null :: r => m_nx (pc + len) (m_st lv k.val .null) r h
    | _ => none)
  | .astore k => (match st with
    | .ref x :: r => m_nx (pc + len) (m_st lv k (.ref x)) r h
    | .null :: r => m_nx (pc + len) (m_st lv k .null) r h
    | _ => none)
  | .iinc i n => (match m_lg lv i with
    | some (.int x) => m_nx (pc + len) (m_st lv i (.int (x + Int32.ofInt n))) st h
    | _ => none)
  | .iadd => (match st with
    | .int y :: .int x :: r => m_nx (pc + len) lv (.int (x + y) :: r) h
    | _ => none)
  | .isub => (match st with
    | .int y :: .int x :: r => m_nx (pc + len) lv (.int (x - y) :: r) h
    | _ => none)
  | .imul => (match st with
    | .int y :: .int x :: r => m_nx (pc + len) lv (.int (x * y) :: r) h
    | _ => none)
  | .iand => (match st with
    | .int y :: .int x :: r => m_nx (pc + len) lv (.int (x &&& y) :: r) h
    | _ => none)
  | .ior => (match st with
    | .int y :: .int x :: r => m_nx (pc + len) lv (.int (x ||| y) :: r) h
    | _ => none)
  | .ixor => (match st with
    | .int y :: .int x :: r => m_nx (pc + len) lv (.int (x ^^^ y) :: r) h
    | _ => none)
  | .idiv => (match st with
    | .int y :: .int x :: r => if y = 0 then none else m_nx (pc + len) lv (.int (x / y) :: r) h
    | _ => none)
  | .irem => (match st with
    | .int y :: .int x :: r => if y = 0 then none else m_nx (pc + len) lv (.int (x - x / y * y) :: r) h
    | _ => none)
  | .ishl => (match st with
    | .int y :: .int x :: r => m_nx (pc + len) lv (.int (x <<< (y &&& 31)) :: r) h
    | _ => none)
  | .ishr => (match st with
    | .int y :: .int x :: r => m_nx (pc + len) lv (.int (x >>> (y &&& 31)) :: r) h
    | _ => none)
  | .iushr => (match st with
    | .int y :: .int x :: r => m_nx (pc + len) lv (.int ((x.toUInt32 >>> (y.toUInt32 &&& Int32.toUInt32 31)).toInt32) :: r) h
    | _ => none)
  | .land => (match st with
    | .long y :: .long x :: r => m_nx (pc + len) lv (.long (x &&& y) :: r) h
    | _ => none)
  | .lor => (match st with
    | .long y :: .long x :: r => m_nx (pc + len) lv (.long (x ||| y) :: r) h
    | _ => none)
  | .lshl => (match st with
    | .int y :: .long x :: r => m_nx (pc + len) lv (.long (x <<< (y.toInt64 &&& 63)) :: r) h
    | _ => none)
  | .lshr => (match st with
    | .int y :: .long x :: r => m_nx (pc + len) lv (.long (x >>> (y.toInt64 &&& 63)) :: r) h
    | _ => none)
  | .lushr => (match st with
    | .int y :: .long x :: r => m_nx (pc + len) lv (.long ((x.toUInt64 >>> (y.toInt64.toUInt64 &&& Int64.toUInt64 63)).toInt64) :: r) h
    | _ => none)
  | .ineg => (match st with
    | .int x :: r => m_nx (pc + len) lv (.int (-x) :: r) h
    | _ => none)
  | .i2l => (match st with
    | .int x :: r => m_nx (pc + len) lv (.long (x.toInt64) :: r) h
    | _ => none)
  | .l2i => (match st with
    | .long x :: r => m_nx (pc + len) lv (.int (x.toInt32) :: r) h
    | _ => none)
  | .dup => (match st with
    | .int x :: r => m_nx (pc + len) lv (.int x :: .int x :: r) h
    | .ref x :: r => m_nx (pc + len) lv (.ref x :: .ref x :: r) h
    | _ => none)
  | .dup2 => (match st with
    | .int x :: .ref y :: r => m_nx (pc + len) lv (.int x :: .ref y :: .int x :: .ref y :: r) h
    | _ => none)
  | .pop => (match st with
    | .int _ :: r => m_nx (pc + len) lv r h
    | _ => none)
  | .ifCond .eq _ => (match st with
    | .int x :: r => if x = 0 then m_nx a.toNat lv r h else m_nx (pc + len) lv r h
    | _ => none)
  | .ifCond .ne _ => (match st with
    | .int x :: r => if x = 0 then m_nx (pc + len) lv r h else m_nx a.toNat lv r h
    | _ => none)
  | .ifCond .lt _ => (match st with
    | .int x :: r => if x < 0 then m_nx a.toNat lv r h else m_nx (pc + len) lv r h
    | _ => none)
  | .ifCond .ge _ => (match st with
    | .int x :: r => if 0 ≤ x then m_nx a.toNat lv r h else m_nx (pc + len) lv r h
    | _ => none)
  | .ifCond .gt _ => (match st with
    | .int x :: r => if 0 < x then m_nx a.toNat lv r h else m_nx (pc + len) lv r h
    | _ => none)
  | .ifCond .le _ => (match st with
    | .int x :: r => if x ≤ 0 then m_nx a.toNat lv r h else m_nx (pc + len) lv r h
    | _ => none)
  | .if_icmp .eq _ => (match st with
    | .int y :: .int x :: r => if x = y then m_nx a.toNat lv r h else m_nx (pc + len) lv r h
    | _ => none)
  | .if_icmp .ne _ => (match st with
    | .int y :: .int x :: r => if x = y then m_nx (pc + len) lv r h else m_nx a.toNat lv r h
    | _ => none)
  | .if_icmp .lt _ => (match st with
    | .int y :: .int x :: r => if x < y then m_nx a.toNat lv r h else m_nx (pc + len) lv r h
    | _ => none)
  | .if_icmp .ge _ => (match st with
    | .int y :: .int x :: r => if y ≤ x then m_nx a.toNat lv r h else m_nx (pc + len) lv r h
    | _ => none)
  | .if_icmp .gt _ => (match st with
    | .int y :: .int x :: r => if y < x then m_nx a.toNat lv r h else m_nx (pc + len) lv r h
    | _ => none)
  | .if_icmp .le _ => (match st with
    | .int y :: .int x :: r => if x ≤ y then m_nx a.toNat lv r h else m_nx (pc + len) lv r h
    | _ => none)
  | .ifnull _ => (match st with
    | .null :: r => m_nx a.toNat lv r h
    | .ref _ :: r => m_nx (pc + len) lv r h
    | _ => none)
  | .ifnonnull _ => (match st with
    | .null :: r => m_nx (pc + len) lv r h
    | .ref _ :: r => m_nx a.toNat lv r h
    | _ => none)
  | .goto _ => m_nx a.toNat lv st h
  | .tableswitch d lo hi offs => (match st with
    | .int x :: r => if x.toInt < lo ∨ hi < x.toInt then (match m_go pc d with
      | some t => m_nx t lv r h
      | none => none) else (match m_nth offs.toList (x.toInt - lo).toNat with
      | some off => (match m_go pc off with
        | some t => m_nx t lv r h
        | none => none)
      | none => none)
    | _ => none)
  | .lookupswitch d ps => (match st with
    | .int x :: r => (match m_go pc (Op.lookupswitch.offset ps.toList d x.toInt) with
      | some t => m_nx t lv r h
      | none => none)
    | _ => none)
  | .getfield _ => (match st with
    | .ref k :: r => (match m_ob h k with
      | some (t, vs) => if t = b then (match m_nth vs (a.toNat % 100) with
        | some (.int x) => m_nx (pc + len) lv (.int x :: r) h
        | some (.ref x) => m_nx (pc + len) lv (.ref x :: r) h
        | some .null => m_nx (pc + len) lv (.null :: r) h
        | _ => none) else none
      | none => none)
    | _ => none)
  | .putfield _ => (match st with
    | v :: .ref k :: r => (match m_ob h k with
      | some (t, vs) => if t = b ∧ a.toNat % 100 < vs.length ∧ m_fit (a.toNat / 100) v = true then m_nx (pc + len) lv r (h.set k (t, vs.set (a.toNat % 100) v)) else none
      | none => none)
    | _ => none)
  | .getstatic _ => m_nx (pc + len) lv (.ref (1000000 + b) :: st) h
  | .new _ => (match m_add h b (m_dfl b) with
    | some h' => m_nx (pc + len) lv (.ref h.length :: st) h'
    | none => none)
  | .newarray _ => (match st with
    | .int n :: r => (match m_ix n with
      | some w => if w ≤ 100000 then (match m_add h b (List.replicate w (.int 0)) with
        | some h' => m_nx (pc + len) lv (.ref h.length :: r) h'
        | none => none) else none
      | none => none)
    | _ => none)
  | .anewarray _ => (match st with
    | .int n :: r => (match m_ix n with
      | some w => if w ≤ 100000 then (match m_add h b (List.replicate w .null) with
        | some h' => m_nx (pc + len) lv (.ref h.length :: r) h'
        | none => none) else none
      | none => none)
    | _ => none)
  | .arraylength => (match st with
    | .ref k :: r => (match m_ln X h k with
      | some n => m_nx (pc + len) lv (.int n :: r) h
      | none => none)
    | _ => none)
  | .iaload => (match st with
    | .int i :: .ref k :: r => (match m_el X h 20 k i with
      | some (.int x) => m_nx (pc + len) lv (.int x :: r) h
      | _ => none)
    | _ => none)
  | .baload => (match st with
    | .int i :: .ref k :: r => (match m_el X h 21 k i with
      | some (.int x) => m_nx (pc + len) lv (.int x :: r) h
      | _ => none)
    | _ => none)
  | .aaload => (match st with
    | .int i :: .ref k :: r => (match m_ob h k, m_ix i with
      | some (t, vs), some j => if 22 ≤ t ∧ t ≤ 26 then (match m_nth vs j with
        | some (.ref x) => m_nx (pc + len) lv (.ref x :: r) h
        | some .null => m_nx (pc + len) lv (.null :: r) h
        | _ => none) else none
      | _, _ => none)
    | _ => none)
  | .iastore => (match st with
    | .int x :: .int i :: .ref k :: r => (match m_se h 20 k i (.int x) with
      | some h' => m_nx (pc + len) lv r h'
      | none => none)
    | _ => none)
  | .bastore => (match st with
    | .int x :: .int i :: .ref k :: r => if x = 0 ∨ x = 1 then (match m_se h 21 k i (.int x) with
      | some h' => m_nx (pc + len) lv r h'
      | none => none) else none
    | _ => none)
  | .aastore => (match st with
    | v :: .int i :: .ref k :: r => (match m_ob h k, m_ix i with
      | some (t, vs), some j => if 22 ≤ t ∧ t ≤ 26 ∧ j < vs.length ∧ m_asg h t v = true then m_nx (pc + len) lv r (h.set k (t, vs.set j v)) else none
      | _, _ => none)
    | _ => none)
  | .invokevirtual _ => (match st.drop b with
    | .ref k :: r => (match m_ob h k with
      | some (t, _) => if t = m_oc a.toNat ∧ r.length ≤ 4 ∧ b ≤ st.length then (match call a.toNat (.ref k :: (st.take b).reverse) h with
        | some (v, h') => m_nx (pc + len) lv (v.toList ++ r) h'
        | none => none) else none
      | none => none)
    | _ => none)
  | .invokestatic _ => if a.toNat = 9999 then (match st with
    | .int n :: .int dp :: .ref q :: .int sp :: .ref k :: r => (match m_acp h k sp q dp n with
      | some h' => if r.length ≤ 4 then m_nx (pc + len) lv r h' else none
      | none => none)
    | _ => none) else if (st.drop b).length ≤ 4 ∧ b ≤ st.length then (match call a.toNat (st.take b).reverse h with
      | some (v, h') => m_nx (pc + len) lv (v.toList ++ st.drop b) h'
      | none => none) else none
  | .invokespecial _ => if a.toNat = 9998 then (match st with
    | .ref _ :: r => if r.length ≤ 4 then m_nx (pc + len) lv r h else none
    | _ => none) else (match st.drop b with
    | .ref k :: r => if r.length ≤ 4 ∧ b ≤ st.length ∧ k < 1000000 then (match call a.toNat (.ref k :: (st.take b).reverse) h with
        | some (v, h') => m_nx (pc + len) lv (v.toList ++ r) h'
        | none => none) else none
    | _ => none)
  | .ireturn => (match st with
    | [.int x] => if b = 0 ∨ x = 0 ∨ x = 1 then some (.inr (some (.int x), h)) else none
    | _ => none)
  | .areturn => (match st with
    | [.ref x] => some (.inr (some (.ref x), h))
    | [.null] => some (.inr (some .null, h))
    | _ => none)
  | .return_ => (match st with
    | [] => some (.inr (none, h))
    | _ => none)
  | _ => none
def m_exec (X : Nat → List Int32) (call : Nat → List Value → m_H → Option m_R) (code : List (Option m_E)) : Nat → Nat → m_L → List Value → m_H → Option m_R
  | 0, _, _, _, _ => none
  | n + 1, pc, lv, st, h => match m_nth code pc with
    | some (some en) => (match m_stp X call en pc lv st h with
      | some (.inl (pc', lv', st', h')) => m_exec X call code n pc' lv' st' h'
      | some (.inr r) => some r
      | none => none)
    | _ => none
end
