-- ===== PART A: goes FIRST, ahead of the names: the tables' words, and 'selects' of the private methods out of them =====
/-- a private method of a class that the tables say can be made, by its rows of tables_1 -/
def lw_okq (q : MethodName × Nat) : Prop := (q.1.cls ≠ "java/lang/invoke/MethodHandle" ∧ q.1.cls ≠ "java/lang/invoke/VarHandle") ∧ Cond.instantiable q.1.cls q.2 ∈ tables_1 ∧ Cond.privateMethod q.1 ∈ tables_1 ∧ Cond.instanceMethod q.1 ∈ tables_1
theorem lw_p0 : lw_okq (⟨"TwoBelow", "found", "(I)I"⟩, 7) := ⟨⟨by decide +kernel, by decide +kernel⟩, List.mem_of_getElem? (i := 14) (by decide +kernel), List.mem_of_getElem? (i := 179) (by decide +kernel), List.mem_of_getElem? (i := 180) (by decide +kernel)⟩
theorem lw_p1 : lw_okq (⟨"TwoBelow", "replaced", "([IIII)I"⟩, 7) := ⟨⟨by decide +kernel, by decide +kernel⟩, List.mem_of_getElem? (i := 14) (by decide +kernel), List.mem_of_getElem? (i := 249) (by decide +kernel), List.mem_of_getElem? (i := 250) (by decide +kernel)⟩
theorem lw_p2 : lw_okq (⟨"TwoBelow", "isTooLate", "(I)Z"⟩, 7) := ⟨⟨by decide +kernel, by decide +kernel⟩, List.mem_of_getElem? (i := 14) (by decide +kernel), List.mem_of_getElem? (i := 357) (by decide +kernel), List.mem_of_getElem? (i := 358) (by decide +kernel)⟩
theorem lw_p3 : lw_okq (⟨"TwoBelow", "leastPlot", "(IIII)I"⟩, 7) := ⟨⟨by decide +kernel, by decide +kernel⟩, List.mem_of_getElem? (i := 14) (by decide +kernel), List.mem_of_getElem? (i := 461) (by decide +kernel), List.mem_of_getElem? (i := 462) (by decide +kernel)⟩
theorem lw_p4 : lw_okq (⟨"TwoBelow$Tape", "next", "()V"⟩, 6) := ⟨⟨by decide +kernel, by decide +kernel⟩, List.mem_of_getElem? (i := 99) (by decide +kernel), List.mem_of_getElem? (i := 515) (by decide +kernel), List.mem_of_getElem? (i := 516) (by decide +kernel)⟩
theorem lw_p5 : lw_okq (⟨"TwoBelow$Tape", "sortAt", "(I)I"⟩, 6) := ⟨⟨by decide +kernel, by decide +kernel⟩, List.mem_of_getElem? (i := 99) (by decide +kernel), List.mem_of_getElem? (i := 519) (by decide +kernel), List.mem_of_getElem? (i := 520) (by decide +kernel)⟩
theorem lw_p6 : lw_okq (⟨"TwoBelow$Tape", "valueTold", "()I"⟩, 6) := ⟨⟨by decide +kernel, by decide +kernel⟩, List.mem_of_getElem? (i := 99) (by decide +kernel), List.mem_of_getElem? (i := 524) (by decide +kernel), List.mem_of_getElem? (i := 525) (by decide +kernel)⟩
theorem lw_p7 : lw_okq (⟨"TwoBelow$Tape", "tellItem", "(LTwoBelow$Empire;)Z"⟩, 6) := ⟨⟨by decide +kernel, by decide +kernel⟩, List.mem_of_getElem? (i := 99) (by decide +kernel), List.mem_of_getElem? (i := 528) (by decide +kernel), List.mem_of_getElem? (i := 529) (by decide +kernel)⟩
theorem lw_p8 : lw_okq (⟨"TwoBelow$Tape", "isWord", "(Ljava/lang/String;)Z"⟩, 6) := ⟨⟨by decide +kernel, by decide +kernel⟩, List.mem_of_getElem? (i := 99) (by decide +kernel), List.mem_of_getElem? (i := 533) (by decide +kernel), List.mem_of_getElem? (i := 534) (by decide +kernel)⟩
theorem lw_p9 : lw_okq (⟨"TwoBelow$Tape", "tellRank", "(LTwoBelow$Empire;)Z"⟩, 6) := ⟨⟨by decide +kernel, by decide +kernel⟩, List.mem_of_getElem? (i := 99) (by decide +kernel), List.mem_of_getElem? (i := 585) (by decide +kernel), List.mem_of_getElem? (i := 586) (by decide +kernel)⟩
theorem lw_p10 : lw_okq (⟨"TwoBelow$Tape", "isNumber", "(II)Z"⟩, 6) := ⟨⟨by decide +kernel, by decide +kernel⟩, List.mem_of_getElem? (i := 99) (by decide +kernel), List.mem_of_getElem? (i := 589) (by decide +kernel), List.mem_of_getElem? (i := 590) (by decide +kernel)⟩
theorem lw_p11 : lw_okq (⟨"TwoBelow$Tape", "tellNumber", "([IIII)Z"⟩, 6) := ⟨⟨by decide +kernel, by decide +kernel⟩, List.mem_of_getElem? (i := 99) (by decide +kernel), List.mem_of_getElem? (i := 596) (by decide +kernel), List.mem_of_getElem? (i := 597) (by decide +kernel)⟩
theorem lw_p12 : lw_okq (⟨"TwoBelow$Tape", "lawTold", "()I"⟩, 6) := ⟨⟨by decide +kernel, by decide +kernel⟩, List.mem_of_getElem? (i := 99) (by decide +kernel), List.mem_of_getElem? (i := 600) (by decide +kernel), List.mem_of_getElem? (i := 601) (by decide +kernel)⟩
theorem lw_p13 : lw_okq (⟨"TwoBelow$Tape", "kindTold", "()I"⟩, 6) := ⟨⟨by decide +kernel, by decide +kernel⟩, List.mem_of_getElem? (i := 99) (by decide +kernel), List.mem_of_getElem? (i := 609) (by decide +kernel), List.mem_of_getElem? (i := 610) (by decide +kernel)⟩
theorem lw_p14 : lw_okq (⟨"TwoBelow$Tape", "tellPerson", "(LTwoBelow$Empire;I)Z"⟩, 6) := ⟨⟨by decide +kernel, by decide +kernel⟩, List.mem_of_getElem? (i := 99) (by decide +kernel), List.mem_of_getElem? (i := 621) (by decide +kernel), List.mem_of_getElem? (i := 622) (by decide +kernel)⟩
theorem lw_p15 : lw_okq (⟨"TwoBelow$Tape", "tellDetail", "(Ljava/lang/String;[III)Z"⟩, 6) := ⟨⟨by decide +kernel, by decide +kernel⟩, List.mem_of_getElem? (i := 99) (by decide +kernel), List.mem_of_getElem? (i := 629) (by decide +kernel), List.mem_of_getElem? (i := 630) (by decide +kernel)⟩
def lw_privs_1 : List (MethodName × Nat) := [(⟨"TwoBelow", "found", "(I)I"⟩, 7), (⟨"TwoBelow", "replaced", "([IIII)I"⟩, 7), (⟨"TwoBelow", "isTooLate", "(I)Z"⟩, 7), (⟨"TwoBelow", "leastPlot", "(IIII)I"⟩, 7), (⟨"TwoBelow$Tape", "next", "()V"⟩, 6), (⟨"TwoBelow$Tape", "sortAt", "(I)I"⟩, 6), (⟨"TwoBelow$Tape", "valueTold", "()I"⟩, 6), (⟨"TwoBelow$Tape", "tellItem", "(LTwoBelow$Empire;)Z"⟩, 6), (⟨"TwoBelow$Tape", "isWord", "(Ljava/lang/String;)Z"⟩, 6), (⟨"TwoBelow$Tape", "tellRank", "(LTwoBelow$Empire;)Z"⟩, 6), (⟨"TwoBelow$Tape", "isNumber", "(II)Z"⟩, 6), (⟨"TwoBelow$Tape", "tellNumber", "([IIII)Z"⟩, 6), (⟨"TwoBelow$Tape", "lawTold", "()I"⟩, 6), (⟨"TwoBelow$Tape", "kindTold", "()I"⟩, 6), (⟨"TwoBelow$Tape", "tellPerson", "(LTwoBelow$Empire;I)Z"⟩, 6), (⟨"TwoBelow$Tape", "tellDetail", "(Ljava/lang/String;[III)Z"⟩, 6)]
theorem lw_r1 : ∀ q ∈ lw_privs_1, lw_okq q := List.forall_mem_cons.mpr ⟨lw_p0, List.forall_mem_cons.mpr ⟨lw_p1, List.forall_mem_cons.mpr ⟨lw_p2, List.forall_mem_cons.mpr ⟨lw_p3, List.forall_mem_cons.mpr ⟨lw_p4, List.forall_mem_cons.mpr ⟨lw_p5, List.forall_mem_cons.mpr ⟨lw_p6, List.forall_mem_cons.mpr ⟨lw_p7, List.forall_mem_cons.mpr ⟨lw_p8, List.forall_mem_cons.mpr ⟨lw_p9, List.forall_mem_cons.mpr ⟨lw_p10, List.forall_mem_cons.mpr ⟨lw_p11, List.forall_mem_cons.mpr ⟨lw_p12, List.forall_mem_cons.mpr ⟨lw_p13, List.forall_mem_cons.mpr ⟨lw_p14, List.forall_mem_cons.mpr ⟨lw_p15, fun _ h => absurd h List.not_mem_nil⟩⟩⟩⟩⟩⟩⟩⟩⟩⟩⟩⟩⟩⟩⟩⟩
theorem lw_p16 : lw_okq (⟨"TwoBelow", "sheetAt", "(I)LTwoBelow$Sheet;"⟩, 7) := ⟨⟨by decide +kernel, by decide +kernel⟩, List.mem_of_getElem? (i := 14) (by decide +kernel), List.mem_of_getElem? (i := 652) (by decide +kernel), List.mem_of_getElem? (i := 653) (by decide +kernel)⟩
theorem lw_p17 : lw_okq (⟨"TwoBelowModel", "finds", "(I)I"⟩, 16) := ⟨⟨by decide +kernel, by decide +kernel⟩, List.mem_of_getElem? (i := 709) (by decide +kernel), List.mem_of_getElem? (i := 777) (by decide +kernel), List.mem_of_getElem? (i := 778) (by decide +kernel)⟩
theorem lw_p18 : lw_okq (⟨"TwoBelowModel", "inRank", "(I)I"⟩, 16) := ⟨⟨by decide +kernel, by decide +kernel⟩, List.mem_of_getElem? (i := 709) (by decide +kernel), List.mem_of_getElem? (i := 781) (by decide +kernel), List.mem_of_getElem? (i := 782) (by decide +kernel)⟩
theorem lw_p19 : lw_okq (⟨"TwoBelowModel", "is", "(II)I"⟩, 16) := ⟨⟨by decide +kernel, by decide +kernel⟩, List.mem_of_getElem? (i := 709) (by decide +kernel), List.mem_of_getElem? (i := 785) (by decide +kernel), List.mem_of_getElem? (i := 786) (by decide +kernel)⟩
theorem lw_p20 : lw_okq (⟨"TwoBelowModel", "becomes", "(II)I"⟩, 16) := ⟨⟨by decide +kernel, by decide +kernel⟩, List.mem_of_getElem? (i := 709) (by decide +kernel), List.mem_of_getElem? (i := 793) (by decide +kernel), List.mem_of_getElem? (i := 794) (by decide +kernel)⟩
theorem lw_p21 : lw_okq (⟨"TwoBelowModel", "counting", "(I)I"⟩, 16) := ⟨⟨by decide +kernel, by decide +kernel⟩, List.mem_of_getElem? (i := 709) (by decide +kernel), List.mem_of_getElem? (i := 801) (by decide +kernel), List.mem_of_getElem? (i := 802) (by decide +kernel)⟩
theorem lw_p22 : lw_okq (⟨"TwoBelowModel", "goldOf", "(I)I"⟩, 16) := ⟨⟨by decide +kernel, by decide +kernel⟩, List.mem_of_getElem? (i := 709) (by decide +kernel), List.mem_of_getElem? (i := 805) (by decide +kernel), List.mem_of_getElem? (i := 806) (by decide +kernel)⟩
theorem lw_p23 : lw_okq (⟨"TwoBelowModel", "hasSeat", "(I)Z"⟩, 16) := ⟨⟨by decide +kernel, by decide +kernel⟩, List.mem_of_getElem? (i := 709) (by decide +kernel), List.mem_of_getElem? (i := 827) (by decide +kernel), List.mem_of_getElem? (i := 828) (by decide +kernel)⟩
theorem lw_p24 : lw_okq (⟨"TwoBelowModel", "comes", "(II)I"⟩, 16) := ⟨⟨by decide +kernel, by decide +kernel⟩, List.mem_of_getElem? (i := 709) (by decide +kernel), List.mem_of_getElem? (i := 832) (by decide +kernel), List.mem_of_getElem? (i := 833) (by decide +kernel)⟩
theorem lw_p25 : lw_okq (⟨"TwoBelowModel", "makes", "(III)V"⟩, 16) := ⟨⟨by decide +kernel, by decide +kernel⟩, List.mem_of_getElem? (i := 709) (by decide +kernel), List.mem_of_getElem? (i := 836) (by decide +kernel), List.mem_of_getElem? (i := 837) (by decide +kernel)⟩
theorem lw_p26 : lw_okq (⟨"TwoBelowModel", "isPerson", "(I)Z"⟩, 16) := ⟨⟨by decide +kernel, by decide +kernel⟩, List.mem_of_getElem? (i := 709) (by decide +kernel), List.mem_of_getElem? (i := 844) (by decide +kernel), List.mem_of_getElem? (i := 845) (by decide +kernel)⟩
theorem lw_p27 : lw_okq (⟨"TwoBelowModel", "mayBear", "(II)Z"⟩, 16) := ⟨⟨by decide +kernel, by decide +kernel⟩, List.mem_of_getElem? (i := 709) (by decide +kernel), List.mem_of_getElem? (i := 862) (by decide +kernel), List.mem_of_getElem? (i := 863) (by decide +kernel)⟩
theorem lw_p28 : lw_okq (⟨"TwoBelowModel", "bears", "(II)I"⟩, 16) := ⟨⟨by decide +kernel, by decide +kernel⟩, List.mem_of_getElem? (i := 709) (by decide +kernel), List.mem_of_getElem? (i := 866) (by decide +kernel), List.mem_of_getElem? (i := 867) (by decide +kernel)⟩
theorem lw_p29 : lw_okq (⟨"TwoBelowModel", "isOut", "(I)Z"⟩, 16) := ⟨⟨by decide +kernel, by decide +kernel⟩, List.mem_of_getElem? (i := 709) (by decide +kernel), List.mem_of_getElem? (i := 874) (by decide +kernel), List.mem_of_getElem? (i := 875) (by decide +kernel)⟩
theorem lw_p30 : lw_okq (⟨"TwoBelowModel", "canGive", "(II)Z"⟩, 16) := ⟨⟨by decide +kernel, by decide +kernel⟩, List.mem_of_getElem? (i := 709) (by decide +kernel), List.mem_of_getElem? (i := 882) (by decide +kernel), List.mem_of_getElem? (i := 883) (by decide +kernel)⟩
theorem lw_p31 : lw_okq (⟨"TwoBelowModel", "gives", "(II)V"⟩, 16) := ⟨⟨by decide +kernel, by decide +kernel⟩, List.mem_of_getElem? (i := 709) (by decide +kernel), List.mem_of_getElem? (i := 886) (by decide +kernel), List.mem_of_getElem? (i := 887) (by decide +kernel)⟩
def lw_privs_2 : List (MethodName × Nat) := [(⟨"TwoBelow", "sheetAt", "(I)LTwoBelow$Sheet;"⟩, 7), (⟨"TwoBelowModel", "finds", "(I)I"⟩, 16), (⟨"TwoBelowModel", "inRank", "(I)I"⟩, 16), (⟨"TwoBelowModel", "is", "(II)I"⟩, 16), (⟨"TwoBelowModel", "becomes", "(II)I"⟩, 16), (⟨"TwoBelowModel", "counting", "(I)I"⟩, 16), (⟨"TwoBelowModel", "goldOf", "(I)I"⟩, 16), (⟨"TwoBelowModel", "hasSeat", "(I)Z"⟩, 16), (⟨"TwoBelowModel", "comes", "(II)I"⟩, 16), (⟨"TwoBelowModel", "makes", "(III)V"⟩, 16), (⟨"TwoBelowModel", "isPerson", "(I)Z"⟩, 16), (⟨"TwoBelowModel", "mayBear", "(II)Z"⟩, 16), (⟨"TwoBelowModel", "bears", "(II)I"⟩, 16), (⟨"TwoBelowModel", "isOut", "(I)Z"⟩, 16), (⟨"TwoBelowModel", "canGive", "(II)Z"⟩, 16), (⟨"TwoBelowModel", "gives", "(II)V"⟩, 16)]
theorem lw_r2 : ∀ q ∈ lw_privs_2, lw_okq q := List.forall_mem_cons.mpr ⟨lw_p16, List.forall_mem_cons.mpr ⟨lw_p17, List.forall_mem_cons.mpr ⟨lw_p18, List.forall_mem_cons.mpr ⟨lw_p19, List.forall_mem_cons.mpr ⟨lw_p20, List.forall_mem_cons.mpr ⟨lw_p21, List.forall_mem_cons.mpr ⟨lw_p22, List.forall_mem_cons.mpr ⟨lw_p23, List.forall_mem_cons.mpr ⟨lw_p24, List.forall_mem_cons.mpr ⟨lw_p25, List.forall_mem_cons.mpr ⟨lw_p26, List.forall_mem_cons.mpr ⟨lw_p27, List.forall_mem_cons.mpr ⟨lw_p28, List.forall_mem_cons.mpr ⟨lw_p29, List.forall_mem_cons.mpr ⟨lw_p30, List.forall_mem_cons.mpr ⟨lw_p31, fun _ h => absurd h List.not_mem_nil⟩⟩⟩⟩⟩⟩⟩⟩⟩⟩⟩⟩⟩⟩⟩⟩
theorem lw_p32 : lw_okq (⟨"TwoBelowModel", "wantsIt", "(II)Z"⟩, 16) := ⟨⟨by decide +kernel, by decide +kernel⟩, List.mem_of_getElem? (i := 709) (by decide +kernel), List.mem_of_getElem? (i := 898) (by decide +kernel), List.mem_of_getElem? (i := 899) (by decide +kernel)⟩
theorem lw_p33 : lw_okq (⟨"TwoBelowModel", "greatest", "(II)I"⟩, 16) := ⟨⟨by decide +kernel, by decide +kernel⟩, List.mem_of_getElem? (i := 709) (by decide +kernel), List.mem_of_getElem? (i := 902) (by decide +kernel), List.mem_of_getElem? (i := 903) (by decide +kernel)⟩
theorem lw_p34 : lw_okq (⟨"TwoBelowModel", "againstIt", "(I)I"⟩, 16) := ⟨⟨by decide +kernel, by decide +kernel⟩, List.mem_of_getElem? (i := 709) (by decide +kernel), List.mem_of_getElem? (i := 910) (by decide +kernel), List.mem_of_getElem? (i := 911) (by decide +kernel)⟩
theorem lw_p35 : lw_okq (⟨"TwoBelowModel", "below", "(I)I"⟩, 16) := ⟨⟨by decide +kernel, by decide +kernel⟩, List.mem_of_getElem? (i := 709) (by decide +kernel), List.mem_of_getElem? (i := 914) (by decide +kernel), List.mem_of_getElem? (i := 915) (by decide +kernel)⟩
theorem lw_p36 : lw_okq (⟨"TwoBelowModel", "isEnough", "(II)Z"⟩, 16) := ⟨⟨by decide +kernel, by decide +kernel⟩, List.mem_of_getElem? (i := 709) (by decide +kernel), List.mem_of_getElem? (i := 922) (by decide +kernel), List.mem_of_getElem? (i := 923) (by decide +kernel)⟩
theorem lw_p37 : lw_okq (⟨"TwoBelowModel", "trembling", "()I"⟩, 16) := ⟨⟨by decide +kernel, by decide +kernel⟩, List.mem_of_getElem? (i := 709) (by decide +kernel), List.mem_of_getElem? (i := 931) (by decide +kernel), List.mem_of_getElem? (i := 932) (by decide +kernel)⟩
theorem lw_p38 : lw_okq (⟨"TwoBelowModel", "heirOf", "(I)I"⟩, 16) := ⟨⟨by decide +kernel, by decide +kernel⟩, List.mem_of_getElem? (i := 709) (by decide +kernel), List.mem_of_getElem? (i := 939) (by decide +kernel), List.mem_of_getElem? (i := 940) (by decide +kernel)⟩
theorem lw_p39 : lw_okq (⟨"TwoBelowModel", "orNone", "(I)I"⟩, 16) := ⟨⟨by decide +kernel, by decide +kernel⟩, List.mem_of_getElem? (i := 709) (by decide +kernel), List.mem_of_getElem? (i := 943) (by decide +kernel), List.mem_of_getElem? (i := 944) (by decide +kernel)⟩
theorem lw_p40 : lw_okq (⟨"TwoBelowModel", "wrong", "(IIIZ)I"⟩, 16) := ⟨⟨by decide +kernel, by decide +kernel⟩, List.mem_of_getElem? (i := 709) (by decide +kernel), List.mem_of_getElem? (i := 951) (by decide +kernel), List.mem_of_getElem? (i := 952) (by decide +kernel)⟩
theorem lw_p41 : lw_okq (⟨"TwoBelowModel", "monthsGo", "(I)V"⟩, 16) := ⟨⟨by decide +kernel, by decide +kernel⟩, List.mem_of_getElem? (i := 709) (by decide +kernel), List.mem_of_getElem? (i := 955) (by decide +kernel), List.mem_of_getElem? (i := 956) (by decide +kernel)⟩
theorem lw_p42 : lw_okq (⟨"TwoBelowModel", "month", "()V"⟩, 16) := ⟨⟨by decide +kernel, by decide +kernel⟩, List.mem_of_getElem? (i := 709) (by decide +kernel), List.mem_of_getElem? (i := 959) (by decide +kernel), List.mem_of_getElem? (i := 960) (by decide +kernel)⟩
theorem lw_p43 : lw_okq (⟨"TwoBelowModel", "behind", "(II)I"⟩, 16) := ⟨⟨by decide +kernel, by decide +kernel⟩, List.mem_of_getElem? (i := 709) (by decide +kernel), List.mem_of_getElem? (i := 967) (by decide +kernel), List.mem_of_getElem? (i := 968) (by decide +kernel)⟩
theorem lw_p44 : lw_okq (⟨"TwoBelowModel", "everybody", "()I"⟩, 16) := ⟨⟨by decide +kernel, by decide +kernel⟩, List.mem_of_getElem? (i := 709) (by decide +kernel), List.mem_of_getElem? (i := 974) (by decide +kernel), List.mem_of_getElem? (i := 975) (by decide +kernel)⟩
theorem lw_p45 : lw_okq (⟨"TwoBelowModel", "goldBehind", "(II)I"⟩, 16) := ⟨⟨by decide +kernel, by decide +kernel⟩, List.mem_of_getElem? (i := 709) (by decide +kernel), List.mem_of_getElem? (i := 990) (by decide +kernel), List.mem_of_getElem? (i := 991) (by decide +kernel)⟩
theorem lw_p46 : lw_okq (⟨"TwoBelowModel", "mayPlot", "(I)Z"⟩, 16) := ⟨⟨by decide +kernel, by decide +kernel⟩, List.mem_of_getElem? (i := 709) (by decide +kernel), List.mem_of_getElem? (i := 1016) (by decide +kernel), List.mem_of_getElem? (i := 1017) (by decide +kernel)⟩
theorem lw_p47 : lw_okq (⟨"TwoBelowModel", "isSafe", "(I)Z"⟩, 16) := ⟨⟨by decide +kernel, by decide +kernel⟩, List.mem_of_getElem? (i := 709) (by decide +kernel), List.mem_of_getElem? (i := 1030) (by decide +kernel), List.mem_of_getElem? (i := 1031) (by decide +kernel)⟩
def lw_privs_3 : List (MethodName × Nat) := [(⟨"TwoBelowModel", "wantsIt", "(II)Z"⟩, 16), (⟨"TwoBelowModel", "greatest", "(II)I"⟩, 16), (⟨"TwoBelowModel", "againstIt", "(I)I"⟩, 16), (⟨"TwoBelowModel", "below", "(I)I"⟩, 16), (⟨"TwoBelowModel", "isEnough", "(II)Z"⟩, 16), (⟨"TwoBelowModel", "trembling", "()I"⟩, 16), (⟨"TwoBelowModel", "heirOf", "(I)I"⟩, 16), (⟨"TwoBelowModel", "orNone", "(I)I"⟩, 16), (⟨"TwoBelowModel", "wrong", "(IIIZ)I"⟩, 16), (⟨"TwoBelowModel", "monthsGo", "(I)V"⟩, 16), (⟨"TwoBelowModel", "month", "()V"⟩, 16), (⟨"TwoBelowModel", "behind", "(II)I"⟩, 16), (⟨"TwoBelowModel", "everybody", "()I"⟩, 16), (⟨"TwoBelowModel", "goldBehind", "(II)I"⟩, 16), (⟨"TwoBelowModel", "mayPlot", "(I)Z"⟩, 16), (⟨"TwoBelowModel", "isSafe", "(I)Z"⟩, 16)]
theorem lw_r3 : ∀ q ∈ lw_privs_3, lw_okq q := List.forall_mem_cons.mpr ⟨lw_p32, List.forall_mem_cons.mpr ⟨lw_p33, List.forall_mem_cons.mpr ⟨lw_p34, List.forall_mem_cons.mpr ⟨lw_p35, List.forall_mem_cons.mpr ⟨lw_p36, List.forall_mem_cons.mpr ⟨lw_p37, List.forall_mem_cons.mpr ⟨lw_p38, List.forall_mem_cons.mpr ⟨lw_p39, List.forall_mem_cons.mpr ⟨lw_p40, List.forall_mem_cons.mpr ⟨lw_p41, List.forall_mem_cons.mpr ⟨lw_p42, List.forall_mem_cons.mpr ⟨lw_p43, List.forall_mem_cons.mpr ⟨lw_p44, List.forall_mem_cons.mpr ⟨lw_p45, List.forall_mem_cons.mpr ⟨lw_p46, List.forall_mem_cons.mpr ⟨lw_p47, fun _ h => absurd h List.not_mem_nil⟩⟩⟩⟩⟩⟩⟩⟩⟩⟩⟩⟩⟩⟩⟩⟩
theorem lw_p48 : lw_okq (⟨"TwoBelowModel", "draw", "()I"⟩, 16) := ⟨⟨by decide +kernel, by decide +kernel⟩, List.mem_of_getElem? (i := 709) (by decide +kernel), List.mem_of_getElem? (i := 1038) (by decide +kernel), List.mem_of_getElem? (i := 1039) (by decide +kernel)⟩
theorem lw_p49 : lw_okq (⟨"TwoBelowModel", "grudging", "()I"⟩, 16) := ⟨⟨by decide +kernel, by decide +kernel⟩, List.mem_of_getElem? (i := 709) (by decide +kernel), List.mem_of_getElem? (i := 1043) (by decide +kernel), List.mem_of_getElem? (i := 1044) (by decide +kernel)⟩
theorem lw_p50 : lw_okq (⟨"TwoBelowModel", "token", "()V"⟩, 16) := ⟨⟨by decide +kernel, by decide +kernel⟩, List.mem_of_getElem? (i := 709) (by decide +kernel), List.mem_of_getElem? (i := 1063) (by decide +kernel), List.mem_of_getElem? (i := 1064) (by decide +kernel)⟩
theorem lw_p51 : lw_okq (⟨"TwoBelowModel", "isByte", "(III)Z"⟩, 16) := ⟨⟨by decide +kernel, by decide +kernel⟩, List.mem_of_getElem? (i := 709) (by decide +kernel), List.mem_of_getElem? (i := 1067) (by decide +kernel), List.mem_of_getElem? (i := 1068) (by decide +kernel)⟩
theorem lw_p52 : lw_okq (⟨"TwoBelowModel", "item", "()V"⟩, 16) := ⟨⟨by decide +kernel, by decide +kernel⟩, List.mem_of_getElem? (i := 709) (by decide +kernel), List.mem_of_getElem? (i := 1071) (by decide +kernel), List.mem_of_getElem? (i := 1072) (by decide +kernel)⟩
theorem lw_p53 : lw_okq (⟨"TwoBelowModel", "takes", "(Ljava/lang/String;)Z"⟩, 16) := ⟨⟨by decide +kernel, by decide +kernel⟩, List.mem_of_getElem? (i := 709) (by decide +kernel), List.mem_of_getElem? (i := 1076) (by decide +kernel), List.mem_of_getElem? (i := 1077) (by decide +kernel)⟩
theorem lw_p54 : lw_okq (⟨"TwoBelowModel", "isWord", "(Ljava/lang/String;)Z"⟩, 16) := ⟨⟨by decide +kernel, by decide +kernel⟩, List.mem_of_getElem? (i := 709) (by decide +kernel), List.mem_of_getElem? (i := 1080) (by decide +kernel), List.mem_of_getElem? (i := 1081) (by decide +kernel)⟩
theorem lw_p55 : lw_okq (⟨"TwoBelowModel", "rankItem", "()V"⟩, 16) := ⟨⟨by decide +kernel, by decide +kernel⟩, List.mem_of_getElem? (i := 709) (by decide +kernel), List.mem_of_getElem? (i := 1086) (by decide +kernel), List.mem_of_getElem? (i := 1087) (by decide +kernel)⟩
theorem lw_p56 : lw_okq (⟨"TwoBelowModel", "number", "(IIZ)I"⟩, 16) := ⟨⟨by decide +kernel, by decide +kernel⟩, List.mem_of_getElem? (i := 709) (by decide +kernel), List.mem_of_getElem? (i := 1090) (by decide +kernel), List.mem_of_getElem? (i := 1091) (by decide +kernel)⟩
theorem lw_p57 : lw_okq (⟨"TwoBelowModel", "word", "(Ljava/lang/String;)V"⟩, 16) := ⟨⟨by decide +kernel, by decide +kernel⟩, List.mem_of_getElem? (i := 709) (by decide +kernel), List.mem_of_getElem? (i := 1095) (by decide +kernel), List.mem_of_getElem? (i := 1096) (by decide +kernel)⟩
theorem lw_p58 : lw_okq (⟨"TwoBelowModel", "tells", "(II)V"⟩, 16) := ⟨⟨by decide +kernel, by decide +kernel⟩, List.mem_of_getElem? (i := 709) (by decide +kernel), List.mem_of_getElem? (i := 1100) (by decide +kernel), List.mem_of_getElem? (i := 1101) (by decide +kernel)⟩
theorem lw_p59 : lw_okq (⟨"TwoBelowModel", "kindHere", "()I"⟩, 16) := ⟨⟨by decide +kernel, by decide +kernel⟩, List.mem_of_getElem? (i := 709) (by decide +kernel), List.mem_of_getElem? (i := 1106) (by decide +kernel), List.mem_of_getElem? (i := 1107) (by decide +kernel)⟩
theorem lw_p60 : lw_okq (⟨"TwoBelowModel", "personItem", "(I)V"⟩, 16) := ⟨⟨by decide +kernel, by decide +kernel⟩, List.mem_of_getElem? (i := 709) (by decide +kernel), List.mem_of_getElem? (i := 1117) (by decide +kernel), List.mem_of_getElem? (i := 1118) (by decide +kernel)⟩
theorem lw_p61 : lw_okq (⟨"TwoBelowModel", "isSign", "(I)Z"⟩, 16) := ⟨⟨by decide +kernel, by decide +kernel⟩, List.mem_of_getElem? (i := 709) (by decide +kernel), List.mem_of_getElem? (i := 1126) (by decide +kernel), List.mem_of_getElem? (i := 1127) (by decide +kernel)⟩
def lw_privs_4 : List (MethodName × Nat) := [(⟨"TwoBelowModel", "draw", "()I"⟩, 16), (⟨"TwoBelowModel", "grudging", "()I"⟩, 16), (⟨"TwoBelowModel", "token", "()V"⟩, 16), (⟨"TwoBelowModel", "isByte", "(III)Z"⟩, 16), (⟨"TwoBelowModel", "item", "()V"⟩, 16), (⟨"TwoBelowModel", "takes", "(Ljava/lang/String;)Z"⟩, 16), (⟨"TwoBelowModel", "isWord", "(Ljava/lang/String;)Z"⟩, 16), (⟨"TwoBelowModel", "rankItem", "()V"⟩, 16), (⟨"TwoBelowModel", "number", "(IIZ)I"⟩, 16), (⟨"TwoBelowModel", "word", "(Ljava/lang/String;)V"⟩, 16), (⟨"TwoBelowModel", "tells", "(II)V"⟩, 16), (⟨"TwoBelowModel", "kindHere", "()I"⟩, 16), (⟨"TwoBelowModel", "personItem", "(I)V"⟩, 16), (⟨"TwoBelowModel", "isSign", "(I)Z"⟩, 16)]
theorem lw_r4 : ∀ q ∈ lw_privs_4, lw_okq q := List.forall_mem_cons.mpr ⟨lw_p48, List.forall_mem_cons.mpr ⟨lw_p49, List.forall_mem_cons.mpr ⟨lw_p50, List.forall_mem_cons.mpr ⟨lw_p51, List.forall_mem_cons.mpr ⟨lw_p52, List.forall_mem_cons.mpr ⟨lw_p53, List.forall_mem_cons.mpr ⟨lw_p54, List.forall_mem_cons.mpr ⟨lw_p55, List.forall_mem_cons.mpr ⟨lw_p56, List.forall_mem_cons.mpr ⟨lw_p57, List.forall_mem_cons.mpr ⟨lw_p58, List.forall_mem_cons.mpr ⟨lw_p59, List.forall_mem_cons.mpr ⟨lw_p60, List.forall_mem_cons.mpr ⟨lw_p61, fun _ h => absurd h List.not_mem_nil⟩⟩⟩⟩⟩⟩⟩⟩⟩⟩⟩⟩⟩⟩
def lw_privs : List (MethodName × Nat) := lw_privs_1 ++ (lw_privs_2 ++ (lw_privs_3 ++ (lw_privs_4)))
def lw_tbl : List Cond := k2_sels lw_privs ++ tables_1
theorem lw_privs_ok : ∀ q ∈ lw_privs, lw_okq q := by
  show ∀ q ∈ lw_privs_1 ++ (lw_privs_2 ++ (lw_privs_3 ++ (lw_privs_4))), lw_okq q
  exact List.forall_mem_append.mpr ⟨lw_r1, List.forall_mem_append.mpr ⟨lw_r2, List.forall_mem_append.mpr ⟨lw_r3, lw_r4⟩⟩⟩
/-! ===== BEGIN words of one list among another's, by their places ===== -/
theorem goodIn_r {big : List Cond} (ws : List Cond) (ps : List Nat) (hp : ws = ps.filterMap (fun i => big[i]?)) (h : ws.all goodWord = true) : GoodIn big ws := by
  intro w hw
  have h1 := List.all_eq_true.mp h w hw
  rw [hp] at hw
  obtain ⟨i, -, hi⟩ := List.mem_filterMap.mp hw
  have hm : w ∈ big := by first | exact List.mem_of_getElem? hi | exact List.getElem?_mem hi
  exact ⟨hm, good_of_word h1⟩
theorem goodIn_app {big a b : List Cond} (ha : GoodIn big a) (hb : GoodIn big b) : GoodIn big (a ++ b) := fun w h => (List.mem_append.mp h).elim (ha w) (hb w)
theorem goodIn_ca {big a b : List Cond} {c : Cond} (ha : GoodIn big (c :: a)) (hb : GoodIn big b) : GoodIn big (c :: (a ++ b)) := fun w h => (List.mem_cons.mp h).elim (fun e => ha w (List.mem_cons.mpr (Or.inl e))) (fun h => (List.mem_append.mp h).elim (fun h => ha w (List.mem_cons.mpr (Or.inr h))) (hb w))
theorem goodIn_sub {big ws : List Cond} (hm : ∀ w ∈ ws, w ∈ big) (h : ws.all goodWord = true) : GoodIn big ws := fun w hw => ⟨hm w hw, good_of_word (List.all_eq_true.mp h w hw)⟩
/-! ===== END ===== -/

/-! ===== BEGIN printed: names, fields, word lists, decode rows ===== -/
def RX0 : String := "TwoBelow$Empire"
def TX0 : u_T := fun k => match k with
  | 0 => ("TwoBelow$Empire", "kind", "[I", true)
  | 1 => ("TwoBelow$Empire", "rank", "[I", true)
  | 2 => ("TwoBelow$Empire", "age", "[I", true)
  | 3 => ("TwoBelow$Empire", "house", "[I", true)
  | 4 => ("TwoBelow$Empire", "gold", "[I", true)
  | 5 => ("TwoBelow$Empire", "grudge", "[I", true)
  | 6 => ("TwoBelow$Empire", "gift", "[I", true)
  | 7 => ("TwoBelow$Empire", "seats", "[I", true)
  | 8 => ("TwoBelow$Empire", "in", "[I", true)
  | 9 => ("TwoBelow$Empire", "laws", "[I", true)
  | 10 => ("TwoBelow$Empire", "spots", "[I", true)
  | 11 => ("TwoBelow$Empire", "persons", "I", false)
  | 12 => ("TwoBelow$Empire", "month", "I", false)
  | 13 => ("TwoBelow$Empire", "turned", "I", false)
  | _ => ("TwoBelow$Empire", "z", "I", false)
def tyX0 : Nat → FieldType := fun k => match k with
  | 0 => .array .int
  | 1 => .array .int
  | 2 => .array .int
  | 3 => .array .int
  | 4 => .array .int
  | 5 => .array .int
  | 6 => .array .int
  | 7 => .array .int
  | 8 => .array .int
  | 9 => .array .int
  | 10 => .array .int
  | 11 => .int
  | 12 => .int
  | 13 => .int
  | _ => .int
abbrev wsX00 : List Cond := u_ws RX0 TX0 15
theorem nmX0 : ∀ a, a < 15 → ∀ b, b < 15 → a ≠ b → (TX0 a).2.1 ≠ (TX0 b).2.1 := by decide +kernel
theorem tyX0_ok : ∀ k, k < 15 → parseFieldDescriptor (TX0 k).2.2.1 = some (tyX0 k) := by decide +kernel
abbrev cX0_init : ByteArray := prog_2_method_1_code
def yX0_init : MethodName := ⟨RX0, "<init>", "()V"⟩
abbrev cX0_becomeLike : ByteArray := prog_2_method_2_code
def yX0_becomeLike : MethodName := ⟨RX0, "becomeLike", "(LTwoBelow$Empire;)V"⟩
abbrev cX0_has : ByteArray := prog_2_method_3_code
def yX0_has : MethodName := ⟨RX0, "has", "(I)Z"⟩
abbrev cX0_hasOrNobody : ByteArray := prog_2_method_4_code
def yX0_hasOrNobody : MethodName := ⟨RX0, "hasOrNobody", "(I)Z"⟩
abbrev cX0_all : ByteArray := prog_2_method_5_code
def yX0_all : MethodName := ⟨RX0, "all", "()I"⟩
abbrev cX0_standingOf : ByteArray := prog_2_method_6_code
def yX0_standingOf : MethodName := ⟨RX0, "standingOf", "(I)I"⟩
abbrev cX0_sizeOf : ByteArray := prog_2_method_7_code
def yX0_sizeOf : MethodName := ⟨RX0, "sizeOf", "(I)I"⟩
abbrev cX0_hasFree : ByteArray := prog_2_method_8_code
def yX0_hasFree : MethodName := ⟨RX0, "hasFree", "(I)Z"⟩
abbrev cX0_addOne : ByteArray := prog_2_method_9_code
def yX0_addOne : MethodName := ⟨RX0, "addOne", "(II)I"⟩
abbrev cX0_moveTo : ByteArray := prog_2_method_10_code
def yX0_moveTo : MethodName := ⟨RX0, "moveTo", "(II)V"⟩
abbrev cX0_resent : ByteArray := prog_2_method_11_code
def yX0_resent : MethodName := ⟨RX0, "resent", "(II)V"⟩
abbrev cX0_resentAll : ByteArray := prog_2_method_12_code
def yX0_resentAll : MethodName := ⟨RX0, "resentAll", "(II)V"⟩
abbrev cX0_canTake : ByteArray := prog_2_method_13_code
def yX0_canTake : MethodName := ⟨RX0, "canTake", "(II)Z"⟩
abbrev cX0_take : ByteArray := prog_2_method_14_code
def yX0_take : MethodName := ⟨RX0, "take", "(II)V"⟩
abbrev cX0_thoseOut : ByteArray := prog_2_method_15_code
def yX0_thoseOut : MethodName := ⟨RX0, "thoseOut", "()I"⟩
abbrev cX0_goldOf : ByteArray := prog_2_method_16_code
def yX0_goldOf : MethodName := ⟨RX0, "goldOf", "(I)I"⟩
abbrev cX0_withGrudge : ByteArray := prog_2_method_17_code
def yX0_withGrudge : MethodName := ⟨RX0, "withGrudge", "()I"⟩
abbrev cX0_isWanting : ByteArray := prog_2_method_18_code
def yX0_isWanting : MethodName := ⟨RX0, "isWanting", "(II)Z"⟩
abbrev cX0_besides : ByteArray := prog_2_method_19_code
def yX0_besides : MethodName := ⟨RX0, "besides", "(I)I"⟩
abbrev cX0_isElderTwoAbove : ByteArray := prog_2_method_20_code
def yX0_isElderTwoAbove : MethodName := ⟨RX0, "isElderTwoAbove", "(II)Z"⟩
abbrev cX0_mostBy : ByteArray := prog_2_method_21_code
def yX0_mostBy : MethodName := ⟨RX0, "mostBy", "([II)I"⟩
abbrev cX0_leastOf : ByteArray := prog_2_method_22_code
def yX0_leastOf : MethodName := ⟨RX0, "leastOf", "(I)I"⟩
abbrev cX0_counting : ByteArray := prog_2_method_23_code
def yX0_counting : MethodName := ⟨RX0, "counting", "()I"⟩
abbrev cX0_judgesOf : ByteArray := prog_2_method_24_code
def yX0_judgesOf : MethodName := ⟨RX0, "judgesOf", "(II)I"⟩
abbrev cX0_wanting : ByteArray := prog_2_method_25_code
def yX0_wanting : MethodName := ⟨RX0, "wanting", "(II)I"⟩
abbrev cX0_howManyMayWant : ByteArray := prog_2_method_26_code
def yX0_howManyMayWant : MethodName := ⟨RX0, "howManyMayWant", "(II)I"⟩
abbrev cX0_ableToPlot : ByteArray := prog_2_method_27_code
def yX0_ableToPlot : MethodName := ⟨RX0, "ableToPlot", "()I"⟩
abbrev cX0_isEnough : ByteArray := prog_2_method_28_code
def yX0_isEnough : MethodName := ⟨RX0, "isEnough", "(II)Z"⟩
abbrev cX0_falling : ByteArray := prog_2_method_29_code
def yX0_falling : MethodName := ⟨RX0, "falling", "()I"⟩
abbrev cX0_firstByLaw : ByteArray := prog_2_method_30_code
def yX0_firstByLaw : MethodName := ⟨RX0, "firstByLaw", "(I)I"⟩
abbrev cX0_pass : ByteArray := prog_2_method_31_code
def yX0_pass : MethodName := ⟨RX0, "pass", "(I)I"⟩
abbrev cX0_keeps : ByteArray := prog_2_method_32_code
def yX0_keeps : MethodName := ⟨RX0, "keeps", "(II)Z"⟩
abbrev cX0_goMonth : ByteArray := prog_2_method_33_code
def yX0_goMonth : MethodName := ⟨RX0, "goMonth", "()V"⟩
abbrev cX0_turnOut : ByteArray := prog_2_method_34_code
def yX0_turnOut : MethodName := ⟨RX0, "turnOut", "(I)V"⟩
abbrev cX0_fillSeats : ByteArray := prog_2_method_35_code
def yX0_fillSeats : MethodName := ⟨RX0, "fillSeats", "()V"⟩
abbrev cX0_pay : ByteArray := prog_2_method_36_code
def yX0_pay : MethodName := ⟨RX0, "pay", "()V"⟩
abbrev cX0_growOlder : ByteArray := prog_2_method_37_code
def yX0_growOlder : MethodName := ⟨RX0, "growOlder", "()V"⟩
abbrev cX0_drawPerson : ByteArray := prog_2_method_38_code
def yX0_drawPerson : MethodName := ⟨RX0, "drawPerson", "()I"⟩
def RX1 : String := "TwoBelow$Sheet"
def TX1 : u_T := fun k => match k with
  | 0 => ("TwoBelow$Sheet", "numbers", "[I", true)
  | 1 => ("TwoBelow$Sheet", "bits", "I", false)
  | _ => ("TwoBelow$Sheet", "size", "I", false)
def tyX1 : Nat → FieldType := fun k => match k with
  | 0 => .array .int
  | 1 => .int
  | _ => .int
abbrev wsX10 : List Cond := u_ws RX1 TX1 3
theorem nmX1 : ∀ a, a < 3 → ∀ b, b < 3 → a ≠ b → (TX1 a).2.1 ≠ (TX1 b).2.1 := by decide +kernel
theorem tyX1_ok : ∀ k, k < 3 → parseFieldDescriptor (TX1 k).2.2.1 = some (tyX1 k) := by decide +kernel
abbrev cX1_init : ByteArray := prog_3_method_1_code
def yX1_init : MethodName := ⟨RX1, "<init>", "()V"⟩
abbrev cX1_isMissing : ByteArray := prog_3_method_2_code
def yX1_isMissing : MethodName := ⟨RX1, "isMissing", "()Z"⟩
abbrev cX1_begin : ByteArray := prog_3_method_3_code
def yX1_begin : MethodName := ⟨RX1, "begin", "(II)V"⟩
abbrev cX1_cut : ByteArray := prog_3_method_4_code
def yX1_cut : MethodName := ⟨RX1, "cut", "(I)I"⟩
abbrev cX1_hasRow : ByteArray := prog_3_method_5_code
def yX1_hasRow : MethodName := ⟨RX1, "hasRow", "(II)Z"⟩
def RX2 : String := "TwoBelow$Tape"
def TX2 : u_T := fun k => match k with
  | 0 => ("TwoBelow$Tape", "bytes", "[I", true)
  | 1 => ("TwoBelow$Tape", "length", "I", false)
  | 2 => ("TwoBelow$Tape", "start", "I", false)
  | 3 => ("TwoBelow$Tape", "end", "I", false)
  | 4 => ("TwoBelow$Tape", "sort", "I", false)
  | _ => ("TwoBelow$Tape", "number", "I", false)
def tyX2 : Nat → FieldType := fun k => match k with
  | 0 => .array .int
  | 1 => .int
  | 2 => .int
  | 3 => .int
  | 4 => .int
  | _ => .int
abbrev wsX20 : List Cond := u_ws RX2 TX2 6
theorem nmX2 : ∀ a, a < 6 → ∀ b, b < 6 → a ≠ b → (TX2 a).2.1 ≠ (TX2 b).2.1 := by decide +kernel
theorem tyX2_ok : ∀ k, k < 6 → parseFieldDescriptor (TX2 k).2.2.1 = some (tyX2 k) := by decide +kernel
abbrev cX2_init : ByteArray := prog_4_method_1_code
def yX2_init : MethodName := ⟨RX2, "<init>", "()V"⟩
abbrev cX2_tell : ByteArray := prog_4_method_2_code
def yX2_tell : MethodName := ⟨RX2, "tell", "(LTwoBelow$Empire;)I"⟩
abbrev cX2_tellItem : ByteArray := prog_4_method_3_code
def yX2_tellItem : MethodName := ⟨RX2, "tellItem", "(LTwoBelow$Empire;)Z"⟩
abbrev cX2_tellRank : ByteArray := prog_4_method_4_code
def yX2_tellRank : MethodName := ⟨RX2, "tellRank", "(LTwoBelow$Empire;)Z"⟩
abbrev cX2_tellPerson : ByteArray := prog_4_method_5_code
def yX2_tellPerson : MethodName := ⟨RX2, "tellPerson", "(LTwoBelow$Empire;I)Z"⟩
abbrev cX2_tellDetail : ByteArray := prog_4_method_6_code
def yX2_tellDetail : MethodName := ⟨RX2, "tellDetail", "(Ljava/lang/String;[III)Z"⟩
abbrev cX2_tellNumber : ByteArray := prog_4_method_7_code
def yX2_tellNumber : MethodName := ⟨RX2, "tellNumber", "([IIII)Z"⟩
abbrev cX2_lawTold : ByteArray := prog_4_method_8_code
def yX2_lawTold : MethodName := ⟨RX2, "lawTold", "()I"⟩
abbrev cX2_kindTold : ByteArray := prog_4_method_9_code
def yX2_kindTold : MethodName := ⟨RX2, "kindTold", "()I"⟩
abbrev cX2_isWord : ByteArray := prog_4_method_10_code
def yX2_isWord : MethodName := ⟨RX2, "isWord", "(Ljava/lang/String;)Z"⟩
abbrev cX2_isNumber : ByteArray := prog_4_method_11_code
def yX2_isNumber : MethodName := ⟨RX2, "isNumber", "(II)Z"⟩
abbrev cX2_next : ByteArray := prog_4_method_12_code
def yX2_next : MethodName := ⟨RX2, "next", "()V"⟩
abbrev cX2_sortAt : ByteArray := prog_4_method_13_code
def yX2_sortAt : MethodName := ⟨RX2, "sortAt", "(I)I"⟩
abbrev cX2_valueTold : ByteArray := prog_4_method_14_code
def yX2_valueTold : MethodName := ⟨RX2, "valueTold", "()I"⟩
def RX3 : String := "TwoBelow"
def TX3 : u_T := fun k => match k with
  | 0 => ("TwoBelow", "now", "LTwoBelow$Empire;", true)
  | 1 => ("TwoBelow", "kept", "LTwoBelow$Empire;", true)
  | 2 => ("TwoBelow", "isKept", "Z", false)
  | 3 => ("TwoBelow", "trial", "LTwoBelow$Empire;", true)
  | 4 => ("TwoBelow", "tape", "LTwoBelow$Tape;", true)
  | 5 => ("TwoBelow", "sheets", "[LTwoBelow$Sheet;", true)
  | _ => ("TwoBelow", "findings", "[I", true)
def tyX3 : Nat → FieldType := fun k => match k with
  | 0 => .object "TwoBelow$Empire"
  | 1 => .object "TwoBelow$Empire"
  | 2 => .boolean
  | 3 => .object "TwoBelow$Empire"
  | 4 => .object "TwoBelow$Tape"
  | 5 => .array (.object "TwoBelow$Sheet")
  | _ => .array .int
abbrev wsX30 : List Cond := u_ws RX3 TX3 7
theorem nmX3 : ∀ a, a < 7 → ∀ b, b < 7 → a ≠ b → (TX3 a).2.1 ≠ (TX3 b).2.1 := by decide +kernel
theorem tyX3_ok : ∀ k, k < 7 → parseFieldDescriptor (TX3 k).2.2.1 = some (tyX3 k) := by decide +kernel
abbrev cX3_init : ByteArray := prog_1_method_1_code
def yX3_init : MethodName := ⟨RX3, "<init>", "()V"⟩
abbrev cX3_seats : ByteArray := prog_1_method_2_code
def yX3_seats : MethodName := ⟨RX3, "seats", "(II)I"⟩
abbrev cX3_rankOf : ByteArray := prog_1_method_3_code
def yX3_rankOf : MethodName := ⟨RX3, "rankOf", "(II)I"⟩
abbrev cX3_law : ByteArray := prog_1_method_4_code
def yX3_law : MethodName := ⟨RX3, "law", "(II)I"⟩
abbrev cX3_person : ByteArray := prog_1_method_5_code
def yX3_person : MethodName := ⟨RX3, "person", "(II)I"⟩
abbrev cX3_of : ByteArray := prog_1_method_6_code
def yX3_of : MethodName := ⟨RX3, "of", "(II)I"⟩
abbrev cX3_change : ByteArray := prog_1_method_7_code
def yX3_change : MethodName := ⟨RX3, "change", "(III)I"⟩
abbrev cX3_replaced : ByteArray := prog_1_method_8_code
def yX3_replaced : MethodName := ⟨RX3, "replaced", "([IIII)I"⟩
abbrev cX3_grudge : ByteArray := prog_1_method_9_code
def yX3_grudge : MethodName := ⟨RX3, "grudge", "(II)I"⟩
abbrev cX3_put : ByteArray := prog_1_method_10_code
def yX3_put : MethodName := ⟨RX3, "put", "(II)I"⟩
abbrev cX3_gift : ByteArray := prog_1_method_11_code
def yX3_gift : MethodName := ⟨RX3, "gift", "(II)I"⟩
abbrev cX3_exchange : ByteArray := prog_1_method_12_code
def yX3_exchange : MethodName := ⟨RX3, "exchange", "(II)I"⟩
abbrev cX3_wants : ByteArray := prog_1_method_13_code
def yX3_wants : MethodName := ⟨RX3, "wants", "(II)I"⟩
abbrev cX3_against : ByteArray := prog_1_method_14_code
def yX3_against : MethodName := ⟨RX3, "against", "(I)I"⟩
abbrev cX3_lacks : ByteArray := prog_1_method_15_code
def yX3_lacks : MethodName := ⟨RX3, "lacks", "(I)I"⟩
abbrev cX3_tremble : ByteArray := prog_1_method_16_code
def yX3_tremble : MethodName := ⟨RX3, "tremble", "()I"⟩
abbrev cX3_heir : ByteArray := prog_1_method_17_code
def yX3_heir : MethodName := ⟨RX3, "heir", "(I)I"⟩
abbrev cX3_months : ByteArray := prog_1_method_18_code
def yX3_months : MethodName := ⟨RX3, "months", "(I)I"⟩
abbrev cX3_ahead : ByteArray := prog_1_method_19_code
def yX3_ahead : MethodName := ⟨RX3, "ahead", "(II)I"⟩
abbrev cX3_sits : ByteArray := prog_1_method_20_code
def yX3_sits : MethodName := ⟨RX3, "sits", "(I)I"⟩
abbrev cX3_rises : ByteArray := prog_1_method_21_code
def yX3_rises : MethodName := ⟨RX3, "rises", "(II)I"⟩
abbrev cX3_worth : ByteArray := prog_1_method_22_code
def yX3_worth : MethodName := ⟨RX3, "worth", "(III)I"⟩
abbrev cX3_least : ByteArray := prog_1_method_23_code
def yX3_least : MethodName := ⟨RX3, "least", "(II)I"⟩
abbrev cX3_best : ByteArray := prog_1_method_24_code
def yX3_best : MethodName := ⟨RX3, "best", "(II)I"⟩
abbrev cX3_partsFor : ByteArray := prog_1_method_25_code
def yX3_partsFor : MethodName := ⟨RX3, "partsFor", "(I)I"⟩
abbrev cX3_kindFor : ByteArray := prog_1_method_26_code
def yX3_kindFor : MethodName := ⟨RX3, "kindFor", "(II)I"⟩
abbrev cX3_plot : ByteArray := prog_1_method_27_code
def yX3_plot : MethodName := ⟨RX3, "plot", "(II)I"⟩
abbrev cX3_leastPlot : ByteArray := prog_1_method_28_code
def yX3_leastPlot : MethodName := ⟨RX3, "leastPlot", "(IIII)I"⟩
abbrev cX3_undo : ByteArray := prog_1_method_29_code
def yX3_undo : MethodName := ⟨RX3, "undo", "(II)I"⟩
abbrev cX3_safe : ByteArray := prog_1_method_30_code
def yX3_safe : MethodName := ⟨RX3, "safe", "()I"⟩
abbrev cX3_rumours : ByteArray := prog_1_method_31_code
def yX3_rumours : MethodName := ⟨RX3, "rumours", "(I)I"⟩
abbrev cX3_seed : ByteArray := prog_1_method_32_code
def yX3_seed : MethodName := ⟨RX3, "seed", "(I)I"⟩
abbrev cX3_feed : ByteArray := prog_1_method_33_code
def yX3_feed : MethodName := ⟨RX3, "feed", "(II)I"⟩
abbrev cX3_wipe : ByteArray := prog_1_method_34_code
def yX3_wipe : MethodName := ⟨RX3, "wipe", "()I"⟩
abbrev cX3_text : ByteArray := prog_1_method_35_code
def yX3_text : MethodName := ⟨RX3, "text", "()I"⟩
abbrev cX3_hold : ByteArray := prog_1_method_36_code
def yX3_hold : MethodName := ⟨RX3, "hold", "(II)I"⟩
abbrev cX3_as : ByteArray := prog_1_method_37_code
def yX3_as : MethodName := ⟨RX3, "as", "(II)I"⟩
abbrev cX3_sheet : ByteArray := prog_1_method_38_code
def yX3_sheet : MethodName := ⟨RX3, "sheet", "(III)I"⟩
abbrev cX3_write : ByteArray := prog_1_method_39_code
def yX3_write : MethodName := ⟨RX3, "write", "(III)I"⟩
abbrev cX3_copy : ByteArray := prog_1_method_40_code
def yX3_copy : MethodName := ⟨RX3, "copy", "(IIIII)I"⟩
abbrev cX3_load : ByteArray := prog_1_method_41_code
def yX3_load : MethodName := ⟨RX3, "load", "(I)I"⟩
abbrev cX3_judge : ByteArray := prog_1_method_42_code
def yX3_judge : MethodName := ⟨RX3, "judge", "(I)I"⟩
abbrev cX3_image : ByteArray := prog_1_method_43_code
def yX3_image : MethodName := ⟨RX3, "image", "()I"⟩
abbrev cX3_back : ByteArray := prog_1_method_44_code
def yX3_back : MethodName := ⟨RX3, "back", "()I"⟩
abbrev cX3_tear : ByteArray := prog_1_method_45_code
def yX3_tear : MethodName := ⟨RX3, "tear", "()I"⟩
abbrev cX3_count : ByteArray := prog_1_method_46_code
def yX3_count : MethodName := ⟨RX3, "count", "(I)I"⟩
abbrev cX3_status : ByteArray := prog_1_method_47_code
def yX3_status : MethodName := ⟨RX3, "status", "(I)I"⟩
abbrev cX3_found : ByteArray := prog_1_method_48_code
def yX3_found : MethodName := ⟨RX3, "found", "(I)I"⟩
abbrev cX3_isTooLate : ByteArray := prog_1_method_49_code
def yX3_isTooLate : MethodName := ⟨RX3, "isTooLate", "(I)Z"⟩
abbrev cX3_sheetAt : ByteArray := prog_1_method_50_code
def yX3_sheetAt : MethodName := ⟨RX3, "sheetAt", "(I)LTwoBelow$Sheet;"⟩
abbrev cX3_isWithin : ByteArray := prog_1_method_51_code
def yX3_isWithin : MethodName := ⟨RX3, "isWithin", "(III)Z"⟩
abbrev cX3_isRank : ByteArray := prog_1_method_52_code
def yX3_isRank : MethodName := ⟨RX3, "isRank", "(I)Z"⟩
abbrev cX3_isKind : ByteArray := prog_1_method_53_code
def yX3_isKind : MethodName := ⟨RX3, "isKind", "(I)Z"⟩
abbrev cX3_isOfKind : ByteArray := prog_1_method_54_code
def yX3_isOfKind : MethodName := ⟨RX3, "isOfKind", "(II)Z"⟩
def RX4 : String := "TwoBelowModel"
def TX4 : u_T := fun k => match k with
  | 0 => ("TwoBelowModel", "m", "[I", true)
  | 1 => ("TwoBelowModel", "kept", "[I", true)
  | 2 => ("TwoBelowModel", "was", "[I", true)
  | 3 => ("TwoBelowModel", "other", "[I", true)
  | 4 => ("TwoBelowModel", "isKept", "Z", false)
  | 5 => ("TwoBelowModel", "found", "[I", true)
  | 6 => ("TwoBelowModel", "tape", "[I", true)
  | 7 => ("TwoBelowModel", "taped", "I", false)
  | 8 => ("TwoBelowModel", "sort", "I", false)
  | 9 => ("TwoBelowModel", "from", "I", false)
  | 10 => ("TwoBelowModel", "to", "I", false)
  | 11 => ("TwoBelowModel", "value", "I", false)
  | 12 => ("TwoBelowModel", "bad", "Z", false)
  | 13 => ("TwoBelowModel", "bits", "[I", true)
  | 14 => ("TwoBelowModel", "size", "[I", true)
  | _ => ("TwoBelowModel", "number", "[I", true)
def tyX4 : Nat → FieldType := fun k => match k with
  | 0 => .array .int
  | 1 => .array .int
  | 2 => .array .int
  | 3 => .array .int
  | 4 => .boolean
  | 5 => .array .int
  | 6 => .array .int
  | 7 => .int
  | 8 => .int
  | 9 => .int
  | 10 => .int
  | 11 => .int
  | 12 => .boolean
  | 13 => .array .int
  | 14 => .array .int
  | _ => .array .int
abbrev wsX40 : List Cond := u_ws RX4 TX4 16
theorem nmX4 : ∀ a, a < 16 → ∀ b, b < 16 → a ≠ b → (TX4 a).2.1 ≠ (TX4 b).2.1 := by decide +kernel
theorem tyX4_ok : ∀ k, k < 16 → parseFieldDescriptor (TX4 k).2.2.1 = some (tyX4 k) := by decide +kernel
abbrev cX4_init : ByteArray := prog_6_method_1_code
def yX4_init : MethodName := ⟨RX4, "<init>", "()V"⟩
abbrev cX4_finds : ByteArray := prog_6_method_2_code
def yX4_finds : MethodName := ⟨RX4, "finds", "(I)I"⟩
abbrev cX4_orNone : ByteArray := prog_6_method_3_code
def yX4_orNone : MethodName := ⟨RX4, "orNone", "(I)I"⟩
abbrev cX4_in : ByteArray := prog_6_method_4_code
def yX4_in : MethodName := ⟨RX4, "in", "(JJJ)Z"⟩
abbrev cX4_has : ByteArray := prog_6_method_5_code
def yX4_has : MethodName := ⟨RX4, "has", "(II)Z"⟩
abbrev cX4_many : ByteArray := prog_6_method_6_code
def yX4_many : MethodName := ⟨RX4, "many", "(I)I"⟩
abbrev cX4_row : ByteArray := prog_6_method_7_code
def yX4_row : MethodName := ⟨RX4, "row", "([I[I)V"⟩
abbrev cX4_becomes : ByteArray := prog_6_method_8_code
def yX4_becomes : MethodName := ⟨RX4, "becomes", "(II)I"⟩
abbrev cX4_isRank : ByteArray := prog_6_method_9_code
def yX4_isRank : MethodName := ⟨RX4, "isRank", "(I)Z"⟩
abbrev cX4_isKind : ByteArray := prog_6_method_10_code
def yX4_isKind : MethodName := ⟨RX4, "isKind", "(I)Z"⟩
abbrev cX4_isPerson : ByteArray := prog_6_method_11_code
def yX4_isPerson : MethodName := ⟨RX4, "isPerson", "(I)Z"⟩
abbrev cX4_is : ByteArray := prog_6_method_12_code
def yX4_is : MethodName := ⟨RX4, "is", "(II)I"⟩
abbrev cX4_makes : ByteArray := prog_6_method_13_code
def yX4_makes : MethodName := ⟨RX4, "makes", "(III)V"⟩
abbrev cX4_isOut : ByteArray := prog_6_method_14_code
def yX4_isOut : MethodName := ⟨RX4, "isOut", "(I)Z"⟩
abbrev cX4_inRank : ByteArray := prog_6_method_15_code
def yX4_inRank : MethodName := ⟨RX4, "inRank", "(I)I"⟩
abbrev cX4_counting : ByteArray := prog_6_method_16_code
def yX4_counting : MethodName := ⟨RX4, "counting", "(I)I"⟩
abbrev cX4_hasSeat : ByteArray := prog_6_method_17_code
def yX4_hasSeat : MethodName := ⟨RX4, "hasSeat", "(I)Z"⟩
abbrev cX4_seats : ByteArray := prog_6_method_18_code
def yX4_seats : MethodName := ⟨RX4, "seats", "(II)I"⟩
abbrev cX4_goldOf : ByteArray := prog_6_method_19_code
def yX4_goldOf : MethodName := ⟨RX4, "goldOf", "(I)I"⟩
abbrev cX4_rankOf : ByteArray := prog_6_method_20_code
def yX4_rankOf : MethodName := ⟨RX4, "rankOf", "(II)I"⟩
abbrev cX4_law : ByteArray := prog_6_method_21_code
def yX4_law : MethodName := ⟨RX4, "law", "(II)I"⟩
abbrev cX4_comes : ByteArray := prog_6_method_22_code
def yX4_comes : MethodName := ⟨RX4, "comes", "(II)I"⟩
abbrev cX4_person : ByteArray := prog_6_method_23_code
def yX4_person : MethodName := ⟨RX4, "person", "(II)I"⟩
abbrev cX4_of : ByteArray := prog_6_method_24_code
def yX4_of : MethodName := ⟨RX4, "of", "(II)I"⟩
abbrev cX4_isPart : ByteArray := prog_6_method_25_code
def yX4_isPart : MethodName := ⟨RX4, "isPart", "(II)Z"⟩
abbrev cX4_change : ByteArray := prog_6_method_26_code
def yX4_change : MethodName := ⟨RX4, "change", "(III)I"⟩
abbrev cX4_mayBear : ByteArray := prog_6_method_27_code
def yX4_mayBear : MethodName := ⟨RX4, "mayBear", "(II)Z"⟩
abbrev cX4_bears : ByteArray := prog_6_method_28_code
def yX4_bears : MethodName := ⟨RX4, "bears", "(II)I"⟩
abbrev cX4_grudge : ByteArray := prog_6_method_29_code
def yX4_grudge : MethodName := ⟨RX4, "grudge", "(II)I"⟩
abbrev cX4_put : ByteArray := prog_6_method_30_code
def yX4_put : MethodName := ⟨RX4, "put", "(II)I"⟩
abbrev cX4_gives : ByteArray := prog_6_method_31_code
def yX4_gives : MethodName := ⟨RX4, "gives", "(II)V"⟩
abbrev cX4_canGive : ByteArray := prog_6_method_32_code
def yX4_canGive : MethodName := ⟨RX4, "canGive", "(II)Z"⟩
abbrev cX4_gift : ByteArray := prog_6_method_33_code
def yX4_gift : MethodName := ⟨RX4, "gift", "(II)I"⟩
abbrev cX4_exchange : ByteArray := prog_6_method_34_code
def yX4_exchange : MethodName := ⟨RX4, "exchange", "(II)I"⟩
abbrev cX4_greatest : ByteArray := prog_6_method_35_code
def yX4_greatest : MethodName := ⟨RX4, "greatest", "(II)I"⟩
abbrev cX4_wantsIt : ByteArray := prog_6_method_36_code
def yX4_wantsIt : MethodName := ⟨RX4, "wantsIt", "(II)Z"⟩
abbrev cX4_wants : ByteArray := prog_6_method_37_code
def yX4_wants : MethodName := ⟨RX4, "wants", "(II)I"⟩
abbrev cX4_below : ByteArray := prog_6_method_38_code
def yX4_below : MethodName := ⟨RX4, "below", "(I)I"⟩
abbrev cX4_againstIt : ByteArray := prog_6_method_39_code
def yX4_againstIt : MethodName := ⟨RX4, "againstIt", "(I)I"⟩
abbrev cX4_against : ByteArray := prog_6_method_40_code
def yX4_against : MethodName := ⟨RX4, "against", "(I)I"⟩
abbrev cX4_isEnough : ByteArray := prog_6_method_41_code
def yX4_isEnough : MethodName := ⟨RX4, "isEnough", "(II)Z"⟩
abbrev cX4_lacks : ByteArray := prog_6_method_42_code
def yX4_lacks : MethodName := ⟨RX4, "lacks", "(I)I"⟩
abbrev cX4_trembling : ByteArray := prog_6_method_43_code
def yX4_trembling : MethodName := ⟨RX4, "trembling", "()I"⟩
abbrev cX4_tremble : ByteArray := prog_6_method_44_code
def yX4_tremble : MethodName := ⟨RX4, "tremble", "()I"⟩
abbrev cX4_heirOf : ByteArray := prog_6_method_45_code
def yX4_heirOf : MethodName := ⟨RX4, "heirOf", "(I)I"⟩
abbrev cX4_heir : ByteArray := prog_6_method_46_code
def yX4_heir : MethodName := ⟨RX4, "heir", "(I)I"⟩
abbrev cX4_month : ByteArray := prog_6_method_47_code
def yX4_month : MethodName := ⟨RX4, "month", "()V"⟩
abbrev cX4_monthsGo : ByteArray := prog_6_method_48_code
def yX4_monthsGo : MethodName := ⟨RX4, "monthsGo", "(I)V"⟩
abbrev cX4_wrong : ByteArray := prog_6_method_49_code
def yX4_wrong : MethodName := ⟨RX4, "wrong", "(IIIZ)I"⟩
abbrev cX4_months : ByteArray := prog_6_method_50_code
def yX4_months : MethodName := ⟨RX4, "months", "(I)I"⟩
abbrev cX4_everybody : ByteArray := prog_6_method_51_code
def yX4_everybody : MethodName := ⟨RX4, "everybody", "()I"⟩
abbrev cX4_behind : ByteArray := prog_6_method_52_code
def yX4_behind : MethodName := ⟨RX4, "behind", "(II)I"⟩
abbrev cX4_ahead : ByteArray := prog_6_method_53_code
def yX4_ahead : MethodName := ⟨RX4, "ahead", "(II)I"⟩
abbrev cX4_sits : ByteArray := prog_6_method_54_code
def yX4_sits : MethodName := ⟨RX4, "sits", "(I)I"⟩
abbrev cX4_rises : ByteArray := prog_6_method_55_code
def yX4_rises : MethodName := ⟨RX4, "rises", "(II)I"⟩
abbrev cX4_goldBehind : ByteArray := prog_6_method_56_code
def yX4_goldBehind : MethodName := ⟨RX4, "goldBehind", "(II)I"⟩
abbrev cX4_worth : ByteArray := prog_6_method_57_code
def yX4_worth : MethodName := ⟨RX4, "worth", "(III)I"⟩
abbrev cX4_least : ByteArray := prog_6_method_58_code
def yX4_least : MethodName := ⟨RX4, "least", "(II)I"⟩
abbrev cX4_best : ByteArray := prog_6_method_59_code
def yX4_best : MethodName := ⟨RX4, "best", "(II)I"⟩
abbrev cX4_partsFor : ByteArray := prog_6_method_60_code
def yX4_partsFor : MethodName := ⟨RX4, "partsFor", "(I)I"⟩
abbrev cX4_kindFor : ByteArray := prog_6_method_61_code
def yX4_kindFor : MethodName := ⟨RX4, "kindFor", "(II)I"⟩
abbrev cX4_mayPlot : ByteArray := prog_6_method_62_code
def yX4_mayPlot : MethodName := ⟨RX4, "mayPlot", "(I)Z"⟩
abbrev cX4_plot : ByteArray := prog_6_method_63_code
def yX4_plot : MethodName := ⟨RX4, "plot", "(II)I"⟩
abbrev cX4_undo : ByteArray := prog_6_method_64_code
def yX4_undo : MethodName := ⟨RX4, "undo", "(II)I"⟩
abbrev cX4_isSafe : ByteArray := prog_6_method_65_code
def yX4_isSafe : MethodName := ⟨RX4, "isSafe", "(I)Z"⟩
abbrev cX4_safe : ByteArray := prog_6_method_66_code
def yX4_safe : MethodName := ⟨RX4, "safe", "()I"⟩
abbrev cX4_draw : ByteArray := prog_6_method_67_code
def yX4_draw : MethodName := ⟨RX4, "draw", "()I"⟩
abbrev cX4_grudging : ByteArray := prog_6_method_68_code
def yX4_grudging : MethodName := ⟨RX4, "grudging", "()I"⟩
abbrev cX4_rumours : ByteArray := prog_6_method_69_code
def yX4_rumours : MethodName := ⟨RX4, "rumours", "(I)I"⟩
abbrev cX4_seed : ByteArray := prog_6_method_70_code
def yX4_seed : MethodName := ⟨RX4, "seed", "(I)I"⟩
abbrev cX4_feed : ByteArray := prog_6_method_71_code
def yX4_feed : MethodName := ⟨RX4, "feed", "(II)I"⟩
abbrev cX4_wipe : ByteArray := prog_6_method_72_code
def yX4_wipe : MethodName := ⟨RX4, "wipe", "()I"⟩
abbrev cX4_isByte : ByteArray := prog_6_method_73_code
def yX4_isByte : MethodName := ⟨RX4, "isByte", "(III)Z"⟩
abbrev cX4_token : ByteArray := prog_6_method_74_code
def yX4_token : MethodName := ⟨RX4, "token", "()V"⟩
abbrev cX4_isWord : ByteArray := prog_6_method_75_code
def yX4_isWord : MethodName := ⟨RX4, "isWord", "(Ljava/lang/String;)Z"⟩
abbrev cX4_takes : ByteArray := prog_6_method_76_code
def yX4_takes : MethodName := ⟨RX4, "takes", "(Ljava/lang/String;)Z"⟩
abbrev cX4_isSign : ByteArray := prog_6_method_77_code
def yX4_isSign : MethodName := ⟨RX4, "isSign", "(I)Z"⟩
abbrev cX4_number : ByteArray := prog_6_method_78_code
def yX4_number : MethodName := ⟨RX4, "number", "(IIZ)I"⟩
abbrev cX4_word : ByteArray := prog_6_method_79_code
def yX4_word : MethodName := ⟨RX4, "word", "(Ljava/lang/String;)V"⟩
abbrev cX4_tells : ByteArray := prog_6_method_80_code
def yX4_tells : MethodName := ⟨RX4, "tells", "(II)V"⟩
abbrev cX4_kindHere : ByteArray := prog_6_method_81_code
def yX4_kindHere : MethodName := ⟨RX4, "kindHere", "()I"⟩
abbrev cX4_personItem : ByteArray := prog_6_method_82_code
def yX4_personItem : MethodName := ⟨RX4, "personItem", "(I)V"⟩
abbrev cX4_rankItem : ByteArray := prog_6_method_83_code
def yX4_rankItem : MethodName := ⟨RX4, "rankItem", "()V"⟩
abbrev cX4_item : ByteArray := prog_6_method_84_code
def yX4_item : MethodName := ⟨RX4, "item", "()V"⟩
abbrev cX4_text : ByteArray := prog_6_method_85_code
def yX4_text : MethodName := ⟨RX4, "text", "()I"⟩
abbrev cX4_hold : ByteArray := prog_6_method_86_code
def yX4_hold : MethodName := ⟨RX4, "hold", "(II)I"⟩
abbrev cX4_above : ByteArray := prog_6_method_87_code
def yX4_above : MethodName := ⟨RX4, "above", "(I)I"⟩
abbrev cX4_as : ByteArray := prog_6_method_88_code
def yX4_as : MethodName := ⟨RX4, "as", "(II)I"⟩
abbrev cX4_isSheet : ByteArray := prog_6_method_89_code
def yX4_isSheet : MethodName := ⟨RX4, "isSheet", "(I)Z"⟩
abbrev cX4_sheet : ByteArray := prog_6_method_90_code
def yX4_sheet : MethodName := ⟨RX4, "sheet", "(III)I"⟩
abbrev cX4_write : ByteArray := prog_6_method_91_code
def yX4_write : MethodName := ⟨RX4, "write", "(III)I"⟩
abbrev cX4_copy : ByteArray := prog_6_method_92_code
def yX4_copy : MethodName := ⟨RX4, "copy", "(IIIII)I"⟩
abbrev cX4_load : ByteArray := prog_6_method_93_code
def yX4_load : MethodName := ⟨RX4, "load", "(I)I"⟩
abbrev cX4_judge : ByteArray := prog_6_method_94_code
def yX4_judge : MethodName := ⟨RX4, "judge", "(I)I"⟩
abbrev cX4_image : ByteArray := prog_6_method_95_code
def yX4_image : MethodName := ⟨RX4, "image", "()I"⟩
abbrev cX4_back : ByteArray := prog_6_method_96_code
def yX4_back : MethodName := ⟨RX4, "back", "()I"⟩
abbrev cX4_tear : ByteArray := prog_6_method_97_code
def yX4_tear : MethodName := ⟨RX4, "tear", "()I"⟩
abbrev cX4_count : ByteArray := prog_6_method_98_code
def yX4_count : MethodName := ⟨RX4, "count", "(I)I"⟩
abbrev cX4_status : ByteArray := prog_6_method_99_code
def yX4_status : MethodName := ⟨RX4, "status", "(I)I"⟩
def RJ6 : String := "java/lang/Integer"
def TJ6 : u_T := fun k => match k with
  | _ => ("", "", "", false)
def tyJ6 : Nat → FieldType := fun k => match k with
  | _ => .int
abbrev wsJ60 : List Cond := u_ws RJ6 TJ6 0
theorem nmJ6 : ∀ a, a < 0 → ∀ b, b < 0 → a ≠ b → (TJ6 a).2.1 ≠ (TJ6 b).2.1 := by decide +kernel
theorem tyJ6_ok : ∀ k, k < 0 → parseFieldDescriptor (TJ6 k).2.2.1 = some (tyJ6 k) := by decide +kernel
abbrev cJ6_bitCount_0f7a4 : ByteArray := prog_7_method_49_code
def yJ6_bitCount_0f7a4 : MethodName := ⟨RJ6, "bitCount", "(I)I"⟩
def RJ9 : String := "java/lang/Math"
def TJ9 : u_T := fun k => match k with
  | _ => ("", "", "", false)
def tyJ9 : Nat → FieldType := fun k => match k with
  | _ => .int
abbrev wsJ90 : List Cond := u_ws RJ9 TJ9 0
theorem nmJ9 : ∀ a, a < 0 → ∀ b, b < 0 → a ≠ b → (TJ9 a).2.1 ≠ (TJ9 b).2.1 := by decide +kernel
theorem tyJ9_ok : ∀ k, k < 0 → parseFieldDescriptor (TJ9 k).2.2.1 = some (tyJ9 k) := by decide +kernel
abbrev cJ9_min_7cf53 : ByteArray := prog_8_method_69_code
def yJ9_min_7cf53 : MethodName := ⟨RJ9, "min", "(II)I"⟩
def RJ0 : String := "java/lang/String"
def TJ0 : u_T := fun k => match k with
  | _ => ("", "", "", false)
def tyJ0 : Nat → FieldType := fun k => match k with
  | _ => .int
abbrev wsJ00 : List Cond := u_ws RJ0 TJ0 0
theorem nmJ0 : ∀ a, a < 0 → ∀ b, b < 0 → a ≠ b → (TJ0 a).2.1 ≠ (TJ0 b).2.1 := by decide +kernel
theorem tyJ0_ok : ∀ k, k < 0 → parseFieldDescriptor (TJ0 k).2.2.1 = some (tyJ0 k) := by decide +kernel
abbrev cJ0_length_8abf5 : ByteArray := prog_9_method_54_code
def yJ0_length_8abf5 : MethodName := ⟨RJ0, "length", "()I"⟩
abbrev cJ0_charAt_5068e : ByteArray := prog_9_method_56_code
def yJ0_charAt_5068e : MethodName := ⟨RJ0, "charAt", "(I)C"⟩
abbrev cJ0_coder_7d493 : ByteArray := prog_9_method_152_code
def yJ0_coder_7d493 : MethodName := ⟨RJ0, "coder", "()B"⟩
abbrev cJ0_isLatin1_aae02 : ByteArray := prog_9_method_154_code
def yJ0_isLatin1_aae02 : MethodName := ⟨RJ0, "isLatin1", "()Z"⟩
abbrev cJ0_checkIndex_df160 : ByteArray := prog_9_method_155_code
def yJ0_checkIndex_df160 : MethodName := ⟨RJ0, "checkIndex", "(II)V"⟩
def RJ1 : String := "java/lang/StringLatin1"
def TJ1 : u_T := fun k => match k with
  | _ => ("", "", "", false)
def tyJ1 : Nat → FieldType := fun k => match k with
  | _ => .int
abbrev wsJ10 : List Cond := u_ws RJ1 TJ1 0
theorem nmJ1 : ∀ a, a < 0 → ∀ b, b < 0 → a ≠ b → (TJ1 a).2.1 ≠ (TJ1 b).2.1 := by decide +kernel
theorem tyJ1_ok : ∀ k, k < 0 → parseFieldDescriptor (TJ1 k).2.2.1 = some (tyJ1 k) := by decide +kernel
abbrev cJ1_charAt_3b067 : ByteArray := prog_10_method_2_code
def yJ1_charAt_3b067 : MethodName := ⟨RJ1, "charAt", "([BI)C"⟩
def RJ2 : String := "java/lang/StringUTF16"
def TJ2 : u_T := fun k => match k with
  | _ => ("", "", "", false)
def tyJ2 : Nat → FieldType := fun k => match k with
  | _ => .int
abbrev wsJ20 : List Cond := u_ws RJ2 TJ2 0
theorem nmJ2 : ∀ a, a < 0 → ∀ b, b < 0 → a ≠ b → (TJ2 a).2.1 ≠ (TJ2 b).2.1 := by decide +kernel
theorem tyJ2_ok : ∀ k, k < 0 → parseFieldDescriptor (TJ2 k).2.2.1 = some (tyJ2 k) := by decide +kernel
abbrev cJ2_getChar_3b067 : ByteArray := prog_11_method_5_code
def yJ2_getChar_3b067 : MethodName := ⟨RJ2, "getChar", "([BI)C"⟩
abbrev cJ2_length_9d52b : ByteArray := prog_11_method_6_code
def yJ2_length_9d52b : MethodName := ⟨RJ2, "length", "([B)I"⟩
abbrev cJ2_charAt_3b067 : ByteArray := prog_11_method_83_code
def yJ2_charAt_3b067 : MethodName := ⟨RJ2, "charAt", "([BI)C"⟩
abbrev cJ2_checkIndex_2214a : ByteArray := prog_11_method_91_code
def yJ2_checkIndex_2214a : MethodName := ⟨RJ2, "checkIndex", "(I[B)V"⟩
def RJ10 : String := "java/lang/System"
def TJ10 : u_T := fun k => match k with
  | _ => ("", "", "", false)
def tyJ10 : Nat → FieldType := fun k => match k with
  | _ => .int
abbrev wsJ100 : List Cond := u_ws RJ10 TJ10 0
theorem nmJ10 : ∀ a, a < 0 → ∀ b, b < 0 → a ≠ b → (TJ10 a).2.1 ≠ (TJ10 b).2.1 := by decide +kernel
theorem tyJ10_ok : ∀ k, k < 0 → parseFieldDescriptor (TJ10 k).2.2.1 = some (tyJ10 k) := by decide +kernel
def RJ3 : String := "jdk/internal/util/Preconditions"
def TJ3 : u_T := fun k => match k with
  | _ => ("", "", "", false)
def tyJ3 : Nat → FieldType := fun k => match k with
  | _ => .int
abbrev wsJ30 : List Cond := u_ws RJ3 TJ3 0
theorem nmJ3 : ∀ a, a < 0 → ∀ b, b < 0 → a ≠ b → (TJ3 a).2.1 ≠ (TJ3 b).2.1 := by decide +kernel
theorem tyJ3_ok : ∀ k, k < 0 → parseFieldDescriptor (TJ3 k).2.2.1 = some (tyJ3 k) := by decide +kernel
abbrev cJ3_checkIndex_8e157 : ByteArray := prog_13_method_11_code
def yJ3_checkIndex_8e157 : MethodName := ⟨RJ3, "checkIndex", "(IILjava/util/function/BiFunction;)I"⟩
def RL : String := "TwoBelowLaw"
abbrev cL_law : ByteArray := code
def yL_law : MethodName := ⟨RL, "law", "([I)Z"⟩
abbrev vwCl : List vw_C := [(RX0, TX0, 15), (RX1, TX1, 3), (RX2, TX2, 6), (RX3, TX3, 7), (RX4, TX4, 16)]
