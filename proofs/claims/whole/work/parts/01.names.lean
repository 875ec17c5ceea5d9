-- ===== PART A: goes FIRST, ahead of the names: the tables' words, and 'selects' of the private methods out of them =====
/-- a private method of a class that the tables say can be made, by its rows of tables_1 -/
def lw_okq (q : MethodName × Nat) : Prop := (q.1.cls ≠ "java/lang/invoke/MethodHandle" ∧ q.1.cls ≠ "java/lang/invoke/VarHandle") ∧ Cond.instantiable q.1.cls q.2 ∈ tables_1 ∧ Cond.privateMethod q.1 ∈ tables_1 ∧ Cond.instanceMethod q.1 ∈ tables_1
theorem lw_p0 : lw_okq (⟨"SightSpacing$Reader", "skipBlanks", "()V"⟩, 7) := ⟨⟨by decide +kernel, by decide +kernel⟩, List.mem_of_getElem? (i := 132) (by decide +kernel), List.mem_of_getElem? (i := 265) (by decide +kernel), List.mem_of_getElem? (i := 266) (by decide +kernel)⟩
theorem lw_p1 : lw_okq (⟨"SightSpacing$Reader", "readClause", "()V"⟩, 7) := ⟨⟨by decide +kernel, by decide +kernel⟩, List.mem_of_getElem? (i := 132) (by decide +kernel), List.mem_of_getElem? (i := 269) (by decide +kernel), List.mem_of_getElem? (i := 270) (by decide +kernel)⟩
theorem lw_p2 : lw_okq (⟨"SightSpacing$Reader", "passWord", "()I"⟩, 7) := ⟨⟨by decide +kernel, by decide +kernel⟩, List.mem_of_getElem? (i := 132) (by decide +kernel), List.mem_of_getElem? (i := 273) (by decide +kernel), List.mem_of_getElem? (i := 274) (by decide +kernel)⟩
theorem lw_p3 : lw_okq (⟨"SightSpacing$Reader", "isLetter", "(I)Z"⟩, 7) := ⟨⟨by decide +kernel, by decide +kernel⟩, List.mem_of_getElem? (i := 132) (by decide +kernel), List.mem_of_getElem? (i := 277) (by decide +kernel), List.mem_of_getElem? (i := 278) (by decide +kernel)⟩
theorem lw_p4 : lw_okq (⟨"SightSpacing$Reader", "readLetter", "(I)V"⟩, 7) := ⟨⟨by decide +kernel, by decide +kernel⟩, List.mem_of_getElem? (i := 132) (by decide +kernel), List.mem_of_getElem? (i := 281) (by decide +kernel), List.mem_of_getElem? (i := 282) (by decide +kernel)⟩
theorem lw_p5 : lw_okq (⟨"SightSpacing$Reader", "readEdge", "()I"⟩, 7) := ⟨⟨by decide +kernel, by decide +kernel⟩, List.mem_of_getElem? (i := 132) (by decide +kernel), List.mem_of_getElem? (i := 285) (by decide +kernel), List.mem_of_getElem? (i := 286) (by decide +kernel)⟩
theorem lw_p6 : lw_okq (⟨"SightSpacing$Reader", "isFigure", "(I)Z"⟩, 7) := ⟨⟨by decide +kernel, by decide +kernel⟩, List.mem_of_getElem? (i := 132) (by decide +kernel), List.mem_of_getElem? (i := 289) (by decide +kernel), List.mem_of_getElem? (i := 290) (by decide +kernel)⟩
theorem lw_p7 : lw_okq (⟨"SightSpacing$Reader", "fail", "(II)V"⟩, 7) := ⟨⟨by decide +kernel, by decide +kernel⟩, List.mem_of_getElem? (i := 132) (by decide +kernel), List.mem_of_getElem? (i := 293) (by decide +kernel), List.mem_of_getElem? (i := 294) (by decide +kernel)⟩
theorem lw_p8 : lw_okq (⟨"SightSpacing$Reader", "pass", "(I)V"⟩, 7) := ⟨⟨by decide +kernel, by decide +kernel⟩, List.mem_of_getElem? (i := 132) (by decide +kernel), List.mem_of_getElem? (i := 297) (by decide +kernel), List.mem_of_getElem? (i := 298) (by decide +kernel)⟩
theorem lw_p9 : lw_okq (⟨"SightSpacing$Reader", "readWidth", "()I"⟩, 7) := ⟨⟨by decide +kernel, by decide +kernel⟩, List.mem_of_getElem? (i := 132) (by decide +kernel), List.mem_of_getElem? (i := 301) (by decide +kernel), List.mem_of_getElem? (i := 302) (by decide +kernel)⟩
theorem lw_p10 : lw_okq (⟨"SightSpacing$Reader", "readPair", "(I)V"⟩, 7) := ⟨⟨by decide +kernel, by decide +kernel⟩, List.mem_of_getElem? (i := 132) (by decide +kernel), List.mem_of_getElem? (i := 309) (by decide +kernel), List.mem_of_getElem? (i := 310) (by decide +kernel)⟩
theorem lw_p11 : lw_okq (⟨"SightSpacing$Reader", "passMinus", "()Z"⟩, 7) := ⟨⟨by decide +kernel, by decide +kernel⟩, List.mem_of_getElem? (i := 132) (by decide +kernel), List.mem_of_getElem? (i := 321) (by decide +kernel), List.mem_of_getElem? (i := 322) (by decide +kernel)⟩
theorem lw_p12 : lw_okq (⟨"SightSpacing$Reader", "readNumber", "(II)I"⟩, 7) := ⟨⟨by decide +kernel, by decide +kernel⟩, List.mem_of_getElem? (i := 132) (by decide +kernel), List.mem_of_getElem? (i := 325) (by decide +kernel), List.mem_of_getElem? (i := 326) (by decide +kernel)⟩
theorem lw_p13 : lw_okq (⟨"SightSpacing$Reader", "isWord", "(IILjava/lang/String;)Z"⟩, 7) := ⟨⟨by decide +kernel, by decide +kernel⟩, List.mem_of_getElem? (i := 132) (by decide +kernel), List.mem_of_getElem? (i := 334) (by decide +kernel), List.mem_of_getElem? (i := 335) (by decide +kernel)⟩
theorem lw_p14 : lw_okq (⟨"SightSpacing$Reader", "readTerm", "(I)V"⟩, 7) := ⟨⟨by decide +kernel, by decide +kernel⟩, List.mem_of_getElem? (i := 132) (by decide +kernel), List.mem_of_getElem? (i := 386) (by decide +kernel), List.mem_of_getElem? (i := 387) (by decide +kernel)⟩
theorem lw_p15 : lw_okq (⟨"SightSpacing$Reader", "readBy", "()V"⟩, 7) := ⟨⟨by decide +kernel, by decide +kernel⟩, List.mem_of_getElem? (i := 132) (by decide +kernel), List.mem_of_getElem? (i := 402) (by decide +kernel), List.mem_of_getElem? (i := 403) (by decide +kernel)⟩
def lw_privs_1 : List (MethodName × Nat) := [(⟨"SightSpacing$Reader", "skipBlanks", "()V"⟩, 7), (⟨"SightSpacing$Reader", "readClause", "()V"⟩, 7), (⟨"SightSpacing$Reader", "passWord", "()I"⟩, 7), (⟨"SightSpacing$Reader", "isLetter", "(I)Z"⟩, 7), (⟨"SightSpacing$Reader", "readLetter", "(I)V"⟩, 7), (⟨"SightSpacing$Reader", "readEdge", "()I"⟩, 7), (⟨"SightSpacing$Reader", "isFigure", "(I)Z"⟩, 7), (⟨"SightSpacing$Reader", "fail", "(II)V"⟩, 7), (⟨"SightSpacing$Reader", "pass", "(I)V"⟩, 7), (⟨"SightSpacing$Reader", "readWidth", "()I"⟩, 7), (⟨"SightSpacing$Reader", "readPair", "(I)V"⟩, 7), (⟨"SightSpacing$Reader", "passMinus", "()Z"⟩, 7), (⟨"SightSpacing$Reader", "readNumber", "(II)I"⟩, 7), (⟨"SightSpacing$Reader", "isWord", "(IILjava/lang/String;)Z"⟩, 7), (⟨"SightSpacing$Reader", "readTerm", "(I)V"⟩, 7), (⟨"SightSpacing$Reader", "readBy", "()V"⟩, 7)]
theorem lw_r1 : ∀ q ∈ lw_privs_1, lw_okq q := List.forall_mem_cons.mpr ⟨lw_p0, List.forall_mem_cons.mpr ⟨lw_p1, List.forall_mem_cons.mpr ⟨lw_p2, List.forall_mem_cons.mpr ⟨lw_p3, List.forall_mem_cons.mpr ⟨lw_p4, List.forall_mem_cons.mpr ⟨lw_p5, List.forall_mem_cons.mpr ⟨lw_p6, List.forall_mem_cons.mpr ⟨lw_p7, List.forall_mem_cons.mpr ⟨lw_p8, List.forall_mem_cons.mpr ⟨lw_p9, List.forall_mem_cons.mpr ⟨lw_p10, List.forall_mem_cons.mpr ⟨lw_p11, List.forall_mem_cons.mpr ⟨lw_p12, List.forall_mem_cons.mpr ⟨lw_p13, List.forall_mem_cons.mpr ⟨lw_p14, List.forall_mem_cons.mpr ⟨lw_p15, fun _ h => absurd h List.not_mem_nil⟩⟩⟩⟩⟩⟩⟩⟩⟩⟩⟩⟩⟩⟩⟩⟩
theorem lw_p16 : lw_okq (⟨"SightSpacing$Sight", "inCell", "(II)Z"⟩, 12) := ⟨⟨by decide +kernel, by decide +kernel⟩, List.mem_of_getElem? (i := 61) (by decide +kernel), List.mem_of_getElem? (i := 475) (by decide +kernel), List.mem_of_getElem? (i := 476) (by decide +kernel)⟩
theorem lw_p17 : lw_okq (⟨"SightSpacing$Sight", "chooseKept", "()V"⟩, 12) := ⟨⟨by decide +kernel, by decide +kernel⟩, List.mem_of_getElem? (i := 61) (by decide +kernel), List.mem_of_getElem? (i := 483) (by decide +kernel), List.mem_of_getElem? (i := 484) (by decide +kernel)⟩
theorem lw_p18 : lw_okq (⟨"SightSpacing$Sight", "chooseIfMore", "(I)V"⟩, 12) := ⟨⟨by decide +kernel, by decide +kernel⟩, List.mem_of_getElem? (i := 61) (by decide +kernel), List.mem_of_getElem? (i := 487) (by decide +kernel), List.mem_of_getElem? (i := 488) (by decide +kernel)⟩
theorem lw_p19 : lw_okq (⟨"SightSpacing$Sight", "isLeftOut", "(II)Z"⟩, 12) := ⟨⟨by decide +kernel, by decide +kernel⟩, List.mem_of_getElem? (i := 61) (by decide +kernel), List.mem_of_getElem? (i := 494) (by decide +kernel), List.mem_of_getElem? (i := 495) (by decide +kernel)⟩
theorem lw_p20 : lw_okq (⟨"SightSpacing$Sight", "countCells", "()I"⟩, 12) := ⟨⟨by decide +kernel, by decide +kernel⟩, List.mem_of_getElem? (i := 61) (by decide +kernel), List.mem_of_getElem? (i := 502) (by decide +kernel), List.mem_of_getElem? (i := 503) (by decide +kernel)⟩
theorem lw_p21 : lw_okq (⟨"SightSpacing$Sight", "meanParts", "()I"⟩, 12) := ⟨⟨by decide +kernel, by decide +kernel⟩, List.mem_of_getElem? (i := 61) (by decide +kernel), List.mem_of_getElem? (i := 519) (by decide +kernel), List.mem_of_getElem? (i := 520) (by decide +kernel)⟩
theorem lw_p22 : lw_okq (⟨"SightSpacing$Sight", "meanSum", "()I"⟩, 12) := ⟨⟨by decide +kernel, by decide +kernel⟩, List.mem_of_getElem? (i := 61) (by decide +kernel), List.mem_of_getElem? (i := 523) (by decide +kernel), List.mem_of_getElem? (i := 524) (by decide +kernel)⟩
theorem lw_p23 : lw_okq (⟨"SightSpacing$Sight", "writeStrange", "(ILjava/lang/StringBuilder;)V"⟩, 12) := ⟨⟨by decide +kernel, by decide +kernel⟩, List.mem_of_getElem? (i := 61) (by decide +kernel), List.mem_of_getElem? (i := 630) (by decide +kernel), List.mem_of_getElem? (i := 631) (by decide +kernel)⟩
theorem lw_p24 : lw_okq (⟨"SightSpacing", "driftOnce", "()V"⟩, 10) := ⟨⟨by decide +kernel, by decide +kernel⟩, List.mem_of_getElem? (i := 21) (by decide +kernel), List.mem_of_getElem? (i := 806) (by decide +kernel), List.mem_of_getElem? (i := 807) (by decide +kernel)⟩
theorem lw_p25 : lw_okq (⟨"SightSpacing", "draw", "(I)I"⟩, 10) := ⟨⟨by decide +kernel, by decide +kernel⟩, List.mem_of_getElem? (i := 21) (by decide +kernel), List.mem_of_getElem? (i := 810) (by decide +kernel), List.mem_of_getElem? (i := 811) (by decide +kernel)⟩
theorem lw_p26 : lw_okq (⟨"SightSpacing", "drawEdge", "()I"⟩, 10) := ⟨⟨by decide +kernel, by decide +kernel⟩, List.mem_of_getElem? (i := 21) (by decide +kernel), List.mem_of_getElem? (i := 817) (by decide +kernel), List.mem_of_getElem? (i := 818) (by decide +kernel)⟩
theorem lw_p27 : lw_okq (⟨"SightSpacingModel", "copyRow", "(II)V"⟩, 19) := ⟨⟨by decide +kernel, by decide +kernel⟩, List.mem_of_getElem? (i := 853) (by decide +kernel), List.mem_of_getElem? (i := 931) (by decide +kernel), List.mem_of_getElem? (i := 932) (by decide +kernel)⟩
theorem lw_p28 : lw_okq (⟨"SightSpacingModel", "skip", "()V"⟩, 19) := ⟨⟨by decide +kernel, by decide +kernel⟩, List.mem_of_getElem? (i := 853) (by decide +kernel), List.mem_of_getElem? (i := 935) (by decide +kernel), List.mem_of_getElem? (i := 936) (by decide +kernel)⟩
theorem lw_p29 : lw_okq (⟨"SightSpacingModel", "here", "()I"⟩, 19) := ⟨⟨by decide +kernel, by decide +kernel⟩, List.mem_of_getElem? (i := 853) (by decide +kernel), List.mem_of_getElem? (i := 939) (by decide +kernel), List.mem_of_getElem? (i := 940) (by decide +kernel)⟩
theorem lw_p30 : lw_okq (⟨"SightSpacingModel", "clause", "()V"⟩, 19) := ⟨⟨by decide +kernel, by decide +kernel⟩, List.mem_of_getElem? (i := 853) (by decide +kernel), List.mem_of_getElem? (i := 943) (by decide +kernel), List.mem_of_getElem? (i := 944) (by decide +kernel)⟩
theorem lw_p31 : lw_okq (⟨"SightSpacingModel", "letterClause", "(I)V"⟩, 19) := ⟨⟨by decide +kernel, by decide +kernel⟩, List.mem_of_getElem? (i := 853) (by decide +kernel), List.mem_of_getElem? (i := 952) (by decide +kernel), List.mem_of_getElem? (i := 953) (by decide +kernel)⟩
def lw_privs_2 : List (MethodName × Nat) := [(⟨"SightSpacing$Sight", "inCell", "(II)Z"⟩, 12), (⟨"SightSpacing$Sight", "chooseKept", "()V"⟩, 12), (⟨"SightSpacing$Sight", "chooseIfMore", "(I)V"⟩, 12), (⟨"SightSpacing$Sight", "isLeftOut", "(II)Z"⟩, 12), (⟨"SightSpacing$Sight", "countCells", "()I"⟩, 12), (⟨"SightSpacing$Sight", "meanParts", "()I"⟩, 12), (⟨"SightSpacing$Sight", "meanSum", "()I"⟩, 12), (⟨"SightSpacing$Sight", "writeStrange", "(ILjava/lang/StringBuilder;)V"⟩, 12), (⟨"SightSpacing", "driftOnce", "()V"⟩, 10), (⟨"SightSpacing", "draw", "(I)I"⟩, 10), (⟨"SightSpacing", "drawEdge", "()I"⟩, 10), (⟨"SightSpacingModel", "copyRow", "(II)V"⟩, 19), (⟨"SightSpacingModel", "skip", "()V"⟩, 19), (⟨"SightSpacingModel", "here", "()I"⟩, 19), (⟨"SightSpacingModel", "clause", "()V"⟩, 19), (⟨"SightSpacingModel", "letterClause", "(I)V"⟩, 19)]
theorem lw_r2 : ∀ q ∈ lw_privs_2, lw_okq q := List.forall_mem_cons.mpr ⟨lw_p16, List.forall_mem_cons.mpr ⟨lw_p17, List.forall_mem_cons.mpr ⟨lw_p18, List.forall_mem_cons.mpr ⟨lw_p19, List.forall_mem_cons.mpr ⟨lw_p20, List.forall_mem_cons.mpr ⟨lw_p21, List.forall_mem_cons.mpr ⟨lw_p22, List.forall_mem_cons.mpr ⟨lw_p23, List.forall_mem_cons.mpr ⟨lw_p24, List.forall_mem_cons.mpr ⟨lw_p25, List.forall_mem_cons.mpr ⟨lw_p26, List.forall_mem_cons.mpr ⟨lw_p27, List.forall_mem_cons.mpr ⟨lw_p28, List.forall_mem_cons.mpr ⟨lw_p29, List.forall_mem_cons.mpr ⟨lw_p30, List.forall_mem_cons.mpr ⟨lw_p31, fun _ h => absurd h List.not_mem_nil⟩⟩⟩⟩⟩⟩⟩⟩⟩⟩⟩⟩⟩⟩⟩⟩
theorem lw_p32 : lw_okq (⟨"SightSpacingModel", "readEdge", "(II)V"⟩, 19) := ⟨⟨by decide +kernel, by decide +kernel⟩, List.mem_of_getElem? (i := 853) (by decide +kernel), List.mem_of_getElem? (i := 956) (by decide +kernel), List.mem_of_getElem? (i := 957) (by decide +kernel)⟩
theorem lw_p33 : lw_okq (⟨"SightSpacingModel", "figure", "(I)I"⟩, 19) := ⟨⟨by decide +kernel, by decide +kernel⟩, List.mem_of_getElem? (i := 853) (by decide +kernel), List.mem_of_getElem? (i := 960) (by decide +kernel), List.mem_of_getElem? (i := 961) (by decide +kernel)⟩
theorem lw_p34 : lw_okq (⟨"SightSpacingModel", "fail", "(II)V"⟩, 19) := ⟨⟨by decide +kernel, by decide +kernel⟩, List.mem_of_getElem? (i := 853) (by decide +kernel), List.mem_of_getElem? (i := 965) (by decide +kernel), List.mem_of_getElem? (i := 966) (by decide +kernel)⟩
theorem lw_p35 : lw_okq (⟨"SightSpacingModel", "want", "(I)V"⟩, 19) := ⟨⟨by decide +kernel, by decide +kernel⟩, List.mem_of_getElem? (i := 853) (by decide +kernel), List.mem_of_getElem? (i := 969) (by decide +kernel), List.mem_of_getElem? (i := 970) (by decide +kernel)⟩
theorem lw_p36 : lw_okq (⟨"SightSpacingModel", "pairClause", "(III)V"⟩, 19) := ⟨⟨by decide +kernel, by decide +kernel⟩, List.mem_of_getElem? (i := 853) (by decide +kernel), List.mem_of_getElem? (i := 973) (by decide +kernel), List.mem_of_getElem? (i := 974) (by decide +kernel)⟩
theorem lw_p37 : lw_okq (⟨"SightSpacingModel", "isKnown", "(I)Z"⟩, 19) := ⟨⟨by decide +kernel, by decide +kernel⟩, List.mem_of_getElem? (i := 853) (by decide +kernel), List.mem_of_getElem? (i := 977) (by decide +kernel), List.mem_of_getElem? (i := 978) (by decide +kernel)⟩
theorem lw_p38 : lw_okq (⟨"SightSpacingModel", "number", "(II)I"⟩, 19) := ⟨⟨by decide +kernel, by decide +kernel⟩, List.mem_of_getElem? (i := 853) (by decide +kernel), List.mem_of_getElem? (i := 985) (by decide +kernel), List.mem_of_getElem? (i := 986) (by decide +kernel)⟩
theorem lw_p39 : lw_okq (⟨"SightSpacingModel", "termClause", "(JI)V"⟩, 19) := ⟨⟨by decide +kernel, by decide +kernel⟩, List.mem_of_getElem? (i := 853) (by decide +kernel), List.mem_of_getElem? (i := 998) (by decide +kernel), List.mem_of_getElem? (i := 999) (by decide +kernel)⟩
theorem lw_p40 : lw_okq (⟨"SightSpacingModel", "byClause", "()V"⟩, 19) := ⟨⟨by decide +kernel, by decide +kernel⟩, List.mem_of_getElem? (i := 853) (by decide +kernel), List.mem_of_getElem? (i := 1005) (by decide +kernel), List.mem_of_getElem? (i := 1006) (by decide +kernel)⟩
theorem lw_p41 : lw_okq (⟨"SightSpacingModel", "remember", "()V"⟩, 19) := ⟨⟨by decide +kernel, by decide +kernel⟩, List.mem_of_getElem? (i := 853) (by decide +kernel), List.mem_of_getElem? (i := 1011) (by decide +kernel), List.mem_of_getElem? (i := 1012) (by decide +kernel)⟩
theorem lw_p42 : lw_okq (⟨"SightSpacingModel", "layClasses", "()V"⟩, 19) := ⟨⟨by decide +kernel, by decide +kernel⟩, List.mem_of_getElem? (i := 853) (by decide +kernel), List.mem_of_getElem? (i := 1023) (by decide +kernel), List.mem_of_getElem? (i := 1024) (by decide +kernel)⟩
theorem lw_p43 : lw_okq (⟨"SightSpacingModel", "parts", "(II)Z"⟩, 19) := ⟨⟨by decide +kernel, by decide +kernel⟩, List.mem_of_getElem? (i := 853) (by decide +kernel), List.mem_of_getElem? (i := 1027) (by decide +kernel), List.mem_of_getElem? (i := 1028) (by decide +kernel)⟩
theorem lw_p44 : lw_okq (⟨"SightSpacingModel", "nextNumber", "(IIII)I"⟩, 19) := ⟨⟨by decide +kernel, by decide +kernel⟩, List.mem_of_getElem? (i := 853) (by decide +kernel), List.mem_of_getElem? (i := 1031) (by decide +kernel), List.mem_of_getElem? (i := 1032) (by decide +kernel)⟩
theorem lw_p45 : lw_okq (⟨"SightSpacingModel", "usedAhead", "(II)I"⟩, 19) := ⟨⟨by decide +kernel, by decide +kernel⟩, List.mem_of_getElem? (i := 853) (by decide +kernel), List.mem_of_getElem? (i := 1035) (by decide +kernel), List.mem_of_getElem? (i := 1036) (by decide +kernel)⟩
theorem lw_p46 : lw_okq (⟨"SightSpacingModel", "fits", "(III)Z"⟩, 19) := ⟨⟨by decide +kernel, by decide +kernel⟩, List.mem_of_getElem? (i := 853) (by decide +kernel), List.mem_of_getElem? (i := 1039) (by decide +kernel), List.mem_of_getElem? (i := 1040) (by decide +kernel)⟩
theorem lw_p47 : lw_okq (⟨"SightSpacingModel", "farOf", "(III)I"⟩, 19) := ⟨⟨by decide +kernel, by decide +kernel⟩, List.mem_of_getElem? (i := 853) (by decide +kernel), List.mem_of_getElem? (i := 1043) (by decide +kernel), List.mem_of_getElem? (i := 1044) (by decide +kernel)⟩
def lw_privs_3 : List (MethodName × Nat) := [(⟨"SightSpacingModel", "readEdge", "(II)V"⟩, 19), (⟨"SightSpacingModel", "figure", "(I)I"⟩, 19), (⟨"SightSpacingModel", "fail", "(II)V"⟩, 19), (⟨"SightSpacingModel", "want", "(I)V"⟩, 19), (⟨"SightSpacingModel", "pairClause", "(III)V"⟩, 19), (⟨"SightSpacingModel", "isKnown", "(I)Z"⟩, 19), (⟨"SightSpacingModel", "number", "(II)I"⟩, 19), (⟨"SightSpacingModel", "termClause", "(JI)V"⟩, 19), (⟨"SightSpacingModel", "byClause", "()V"⟩, 19), (⟨"SightSpacingModel", "remember", "()V"⟩, 19), (⟨"SightSpacingModel", "layClasses", "()V"⟩, 19), (⟨"SightSpacingModel", "parts", "(II)Z"⟩, 19), (⟨"SightSpacingModel", "nextNumber", "(IIII)I"⟩, 19), (⟨"SightSpacingModel", "usedAhead", "(II)I"⟩, 19), (⟨"SightSpacingModel", "fits", "(III)Z"⟩, 19), (⟨"SightSpacingModel", "farOf", "(III)I"⟩, 19)]
theorem lw_r3 : ∀ q ∈ lw_privs_3, lw_okq q := List.forall_mem_cons.mpr ⟨lw_p32, List.forall_mem_cons.mpr ⟨lw_p33, List.forall_mem_cons.mpr ⟨lw_p34, List.forall_mem_cons.mpr ⟨lw_p35, List.forall_mem_cons.mpr ⟨lw_p36, List.forall_mem_cons.mpr ⟨lw_p37, List.forall_mem_cons.mpr ⟨lw_p38, List.forall_mem_cons.mpr ⟨lw_p39, List.forall_mem_cons.mpr ⟨lw_p40, List.forall_mem_cons.mpr ⟨lw_p41, List.forall_mem_cons.mpr ⟨lw_p42, List.forall_mem_cons.mpr ⟨lw_p43, List.forall_mem_cons.mpr ⟨lw_p44, List.forall_mem_cons.mpr ⟨lw_p45, List.forall_mem_cons.mpr ⟨lw_p46, List.forall_mem_cons.mpr ⟨lw_p47, fun _ h => absurd h List.not_mem_nil⟩⟩⟩⟩⟩⟩⟩⟩⟩⟩⟩⟩⟩⟩⟩⟩
theorem lw_p48 : lw_okq (⟨"SightSpacingModel", "edgeOf", "(III)I"⟩, 19) := ⟨⟨by decide +kernel, by decide +kernel⟩, List.mem_of_getElem? (i := 853) (by decide +kernel), List.mem_of_getElem? (i := 1047) (by decide +kernel), List.mem_of_getElem? (i := 1048) (by decide +kernel)⟩
theorem lw_p49 : lw_okq (⟨"SightSpacingModel", "termOf", "(I)I"⟩, 19) := ⟨⟨by decide +kernel, by decide +kernel⟩, List.mem_of_getElem? (i := 853) (by decide +kernel), List.mem_of_getElem? (i := 1051) (by decide +kernel), List.mem_of_getElem? (i := 1052) (by decide +kernel)⟩
theorem lw_p50 : lw_okq (⟨"SightSpacingModel", "layLine", "(I)Z"⟩, 19) := ⟨⟨by decide +kernel, by decide +kernel⟩, List.mem_of_getElem? (i := 853) (by decide +kernel), List.mem_of_getElem? (i := 1055) (by decide +kernel), List.mem_of_getElem? (i := 1056) (by decide +kernel)⟩
theorem lw_p51 : lw_okq (⟨"SightSpacingModel", "layCell", "(II)V"⟩, 19) := ⟨⟨by decide +kernel, by decide +kernel⟩, List.mem_of_getElem? (i := 853) (by decide +kernel), List.mem_of_getElem? (i := 1059) (by decide +kernel), List.mem_of_getElem? (i := 1060) (by decide +kernel)⟩
theorem lw_p52 : lw_okq (⟨"SightSpacingModel", "put", "(I)V"⟩, 19) := ⟨⟨by decide +kernel, by decide +kernel⟩, List.mem_of_getElem? (i := 853) (by decide +kernel), List.mem_of_getElem? (i := 1063) (by decide +kernel), List.mem_of_getElem? (i := 1064) (by decide +kernel)⟩
theorem lw_p53 : lw_okq (⟨"SightSpacingModel", "cellGap", "(II)I"⟩, 19) := ⟨⟨by decide +kernel, by decide +kernel⟩, List.mem_of_getElem? (i := 853) (by decide +kernel), List.mem_of_getElem? (i := 1067) (by decide +kernel), List.mem_of_getElem? (i := 1068) (by decide +kernel)⟩
theorem lw_p54 : lw_okq (⟨"SightSpacingModel", "above", "(II)I"⟩, 19) := ⟨⟨by decide +kernel, by decide +kernel⟩, List.mem_of_getElem? (i := 853) (by decide +kernel), List.mem_of_getElem? (i := 1071) (by decide +kernel), List.mem_of_getElem? (i := 1072) (by decide +kernel)⟩
theorem lw_p55 : lw_okq (⟨"SightSpacingModel", "windowOf", "(II)I"⟩, 19) := ⟨⟨by decide +kernel, by decide +kernel⟩, List.mem_of_getElem? (i := 853) (by decide +kernel), List.mem_of_getElem? (i := 1075) (by decide +kernel), List.mem_of_getElem? (i := 1076) (by decide +kernel)⟩
theorem lw_p56 : lw_okq (⟨"SightSpacingModel", "window", "(IIIIZ)I"⟩, 19) := ⟨⟨by decide +kernel, by decide +kernel⟩, List.mem_of_getElem? (i := 853) (by decide +kernel), List.mem_of_getElem? (i := 1079) (by decide +kernel), List.mem_of_getElem? (i := 1080) (by decide +kernel)⟩
theorem lw_p57 : lw_okq (⟨"SightSpacingModel", "isIn", "(IIII)Z"⟩, 19) := ⟨⟨by decide +kernel, by decide +kernel⟩, List.mem_of_getElem? (i := 853) (by decide +kernel), List.mem_of_getElem? (i := 1083) (by decide +kernel), List.mem_of_getElem? (i := 1084) (by decide +kernel)⟩
theorem lw_p58 : lw_okq (⟨"SightSpacingModel", "sight", "(II)I"⟩, 19) := ⟨⟨by decide +kernel, by decide +kernel⟩, List.mem_of_getElem? (i := 853) (by decide +kernel), List.mem_of_getElem? (i := 1087) (by decide +kernel), List.mem_of_getElem? (i := 1088) (by decide +kernel)⟩
theorem lw_p59 : lw_okq (⟨"SightSpacingModel", "white", "(III)I"⟩, 19) := ⟨⟨by decide +kernel, by decide +kernel⟩, List.mem_of_getElem? (i := 853) (by decide +kernel), List.mem_of_getElem? (i := 1091) (by decide +kernel), List.mem_of_getElem? (i := 1092) (by decide +kernel)⟩
theorem lw_p60 : lw_okq (⟨"SightSpacingModel", "below", "(II)I"⟩, 19) := ⟨⟨by decide +kernel, by decide +kernel⟩, List.mem_of_getElem? (i := 853) (by decide +kernel), List.mem_of_getElem? (i := 1095) (by decide +kernel), List.mem_of_getElem? (i := 1096) (by decide +kernel)⟩
theorem lw_p61 : lw_okq (⟨"SightSpacingModel", "keptIn", "(II)I"⟩, 19) := ⟨⟨by decide +kernel, by decide +kernel⟩, List.mem_of_getElem? (i := 853) (by decide +kernel), List.mem_of_getElem? (i := 1099) (by decide +kernel), List.mem_of_getElem? (i := 1100) (by decide +kernel)⟩
theorem lw_p62 : lw_okq (⟨"SightSpacingModel", "pairsIn", "(II)I"⟩, 19) := ⟨⟨by decide +kernel, by decide +kernel⟩, List.mem_of_getElem? (i := 853) (by decide +kernel), List.mem_of_getElem? (i := 1103) (by decide +kernel), List.mem_of_getElem? (i := 1104) (by decide +kernel)⟩
theorem lw_p63 : lw_okq (⟨"SightSpacingModel", "putNumber", "(I)V"⟩, 19) := ⟨⟨by decide +kernel, by decide +kernel⟩, List.mem_of_getElem? (i := 853) (by decide +kernel), List.mem_of_getElem? (i := 1107) (by decide +kernel), List.mem_of_getElem? (i := 1108) (by decide +kernel)⟩
def lw_privs_4 : List (MethodName × Nat) := [(⟨"SightSpacingModel", "edgeOf", "(III)I"⟩, 19), (⟨"SightSpacingModel", "termOf", "(I)I"⟩, 19), (⟨"SightSpacingModel", "layLine", "(I)Z"⟩, 19), (⟨"SightSpacingModel", "layCell", "(II)V"⟩, 19), (⟨"SightSpacingModel", "put", "(I)V"⟩, 19), (⟨"SightSpacingModel", "cellGap", "(II)I"⟩, 19), (⟨"SightSpacingModel", "above", "(II)I"⟩, 19), (⟨"SightSpacingModel", "windowOf", "(II)I"⟩, 19), (⟨"SightSpacingModel", "window", "(IIIIZ)I"⟩, 19), (⟨"SightSpacingModel", "isIn", "(IIII)Z"⟩, 19), (⟨"SightSpacingModel", "sight", "(II)I"⟩, 19), (⟨"SightSpacingModel", "white", "(III)I"⟩, 19), (⟨"SightSpacingModel", "below", "(II)I"⟩, 19), (⟨"SightSpacingModel", "keptIn", "(II)I"⟩, 19), (⟨"SightSpacingModel", "pairsIn", "(II)I"⟩, 19), (⟨"SightSpacingModel", "putNumber", "(I)V"⟩, 19)]
theorem lw_r4 : ∀ q ∈ lw_privs_4, lw_okq q := List.forall_mem_cons.mpr ⟨lw_p48, List.forall_mem_cons.mpr ⟨lw_p49, List.forall_mem_cons.mpr ⟨lw_p50, List.forall_mem_cons.mpr ⟨lw_p51, List.forall_mem_cons.mpr ⟨lw_p52, List.forall_mem_cons.mpr ⟨lw_p53, List.forall_mem_cons.mpr ⟨lw_p54, List.forall_mem_cons.mpr ⟨lw_p55, List.forall_mem_cons.mpr ⟨lw_p56, List.forall_mem_cons.mpr ⟨lw_p57, List.forall_mem_cons.mpr ⟨lw_p58, List.forall_mem_cons.mpr ⟨lw_p59, List.forall_mem_cons.mpr ⟨lw_p60, List.forall_mem_cons.mpr ⟨lw_p61, List.forall_mem_cons.mpr ⟨lw_p62, List.forall_mem_cons.mpr ⟨lw_p63, fun _ h => absurd h List.not_mem_nil⟩⟩⟩⟩⟩⟩⟩⟩⟩⟩⟩⟩⟩⟩⟩⟩
theorem lw_p64 : lw_okq (⟨"SightSpacingModel", "isStrange", "(II)Z"⟩, 19) := ⟨⟨by decide +kernel, by decide +kernel⟩, List.mem_of_getElem? (i := 853) (by decide +kernel), List.mem_of_getElem? (i := 1111) (by decide +kernel), List.mem_of_getElem? (i := 1112) (by decide +kernel)⟩
theorem lw_p65 : lw_okq (⟨"SightSpacingModel", "judgedOf", "(II)I"⟩, 19) := ⟨⟨by decide +kernel, by decide +kernel⟩, List.mem_of_getElem? (i := 853) (by decide +kernel), List.mem_of_getElem? (i := 1115) (by decide +kernel), List.mem_of_getElem? (i := 1116) (by decide +kernel)⟩
theorem lw_p66 : lw_okq (⟨"SightSpacingModel", "layPair", "(II)V"⟩, 19) := ⟨⟨by decide +kernel, by decide +kernel⟩, List.mem_of_getElem? (i := 853) (by decide +kernel), List.mem_of_getElem? (i := 1119) (by decide +kernel), List.mem_of_getElem? (i := 1120) (by decide +kernel)⟩
theorem lw_p67 : lw_okq (⟨"SightSpacingModel", "judgedMany", "()I"⟩, 19) := ⟨⟨by decide +kernel, by decide +kernel⟩, List.mem_of_getElem? (i := 853) (by decide +kernel), List.mem_of_getElem? (i := 1128) (by decide +kernel), List.mem_of_getElem? (i := 1129) (by decide +kernel)⟩
theorem lw_p68 : lw_okq (⟨"SightSpacingModel", "strangeMany", "()I"⟩, 19) := ⟨⟨by decide +kernel, by decide +kernel⟩, List.mem_of_getElem? (i := 853) (by decide +kernel), List.mem_of_getElem? (i := 1132) (by decide +kernel), List.mem_of_getElem? (i := 1133) (by decide +kernel)⟩
theorem lw_p69 : lw_okq (⟨"SightSpacingModel", "misses", "()I"⟩, 19) := ⟨⟨by decide +kernel, by decide +kernel⟩, List.mem_of_getElem? (i := 853) (by decide +kernel), List.mem_of_getElem? (i := 1136) (by decide +kernel), List.mem_of_getElem? (i := 1137) (by decide +kernel)⟩
theorem lw_p70 : lw_okq (⟨"SightSpacingModel", "gapOf", "(II)I"⟩, 19) := ⟨⟨by decide +kernel, by decide +kernel⟩, List.mem_of_getElem? (i := 853) (by decide +kernel), List.mem_of_getElem? (i := 1140) (by decide +kernel), List.mem_of_getElem? (i := 1141) (by decide +kernel)⟩
theorem lw_p71 : lw_okq (⟨"SightSpacingModel", "toldMore", "(I)I"⟩, 19) := ⟨⟨by decide +kernel, by decide +kernel⟩, List.mem_of_getElem? (i := 853) (by decide +kernel), List.mem_of_getElem? (i := 1144) (by decide +kernel), List.mem_of_getElem? (i := 1145) (by decide +kernel)⟩
theorem lw_p72 : lw_okq (⟨"SightSpacingModel", "wrong", "()I"⟩, 19) := ⟨⟨by decide +kernel, by decide +kernel⟩, List.mem_of_getElem? (i := 853) (by decide +kernel), List.mem_of_getElem? (i := 1148) (by decide +kernel), List.mem_of_getElem? (i := 1149) (by decide +kernel)⟩
theorem lw_p73 : lw_okq (⟨"SightSpacingModel", "setEdge", "(III)V"⟩, 19) := ⟨⟨by decide +kernel, by decide +kernel⟩, List.mem_of_getElem? (i := 853) (by decide +kernel), List.mem_of_getElem? (i := 1186) (by decide +kernel), List.mem_of_getElem? (i := 1187) (by decide +kernel)⟩
theorem lw_p74 : lw_okq (⟨"SightSpacingModel", "chance", "()V"⟩, 19) := ⟨⟨by decide +kernel, by decide +kernel⟩, List.mem_of_getElem? (i := 853) (by decide +kernel), List.mem_of_getElem? (i := 1220) (by decide +kernel), List.mem_of_getElem? (i := 1221) (by decide +kernel)⟩
theorem lw_p75 : lw_okq (⟨"SightSpacingModel", "draw", "(I)I"⟩, 19) := ⟨⟨by decide +kernel, by decide +kernel⟩, List.mem_of_getElem? (i := 853) (by decide +kernel), List.mem_of_getElem? (i := 1224) (by decide +kernel), List.mem_of_getElem? (i := 1225) (by decide +kernel)⟩
def lw_privs_5 : List (MethodName × Nat) := [(⟨"SightSpacingModel", "isStrange", "(II)Z"⟩, 19), (⟨"SightSpacingModel", "judgedOf", "(II)I"⟩, 19), (⟨"SightSpacingModel", "layPair", "(II)V"⟩, 19), (⟨"SightSpacingModel", "judgedMany", "()I"⟩, 19), (⟨"SightSpacingModel", "strangeMany", "()I"⟩, 19), (⟨"SightSpacingModel", "misses", "()I"⟩, 19), (⟨"SightSpacingModel", "gapOf", "(II)I"⟩, 19), (⟨"SightSpacingModel", "toldMore", "(I)I"⟩, 19), (⟨"SightSpacingModel", "wrong", "()I"⟩, 19), (⟨"SightSpacingModel", "setEdge", "(III)V"⟩, 19), (⟨"SightSpacingModel", "chance", "()V"⟩, 19), (⟨"SightSpacingModel", "draw", "(I)I"⟩, 19)]
theorem lw_r5 : ∀ q ∈ lw_privs_5, lw_okq q := List.forall_mem_cons.mpr ⟨lw_p64, List.forall_mem_cons.mpr ⟨lw_p65, List.forall_mem_cons.mpr ⟨lw_p66, List.forall_mem_cons.mpr ⟨lw_p67, List.forall_mem_cons.mpr ⟨lw_p68, List.forall_mem_cons.mpr ⟨lw_p69, List.forall_mem_cons.mpr ⟨lw_p70, List.forall_mem_cons.mpr ⟨lw_p71, List.forall_mem_cons.mpr ⟨lw_p72, List.forall_mem_cons.mpr ⟨lw_p73, List.forall_mem_cons.mpr ⟨lw_p74, List.forall_mem_cons.mpr ⟨lw_p75, fun _ h => absurd h List.not_mem_nil⟩⟩⟩⟩⟩⟩⟩⟩⟩⟩⟩⟩
def lw_privs : List (MethodName × Nat) := lw_privs_1 ++ (lw_privs_2 ++ (lw_privs_3 ++ (lw_privs_4 ++ (lw_privs_5))))
def lw_tbl : List Cond := k2_sels lw_privs ++ tables_1
theorem lw_privs_ok : ∀ q ∈ lw_privs, lw_okq q := by
  show ∀ q ∈ lw_privs_1 ++ (lw_privs_2 ++ (lw_privs_3 ++ (lw_privs_4 ++ (lw_privs_5)))), lw_okq q
  exact List.forall_mem_append.mpr ⟨lw_r1, List.forall_mem_append.mpr ⟨lw_r2, List.forall_mem_append.mpr ⟨lw_r3, List.forall_mem_append.mpr ⟨lw_r4, lw_r5⟩⟩⟩⟩
def RX0 : String := "SightSpacing$Book"
def TX0 : u_T := fun k => match k with
  | 0 => ("SightSpacing$Book", "firsts", "[I", true)
  | 1 => ("SightSpacing$Book", "seconds", "[I", true)
  | 2 => ("SightSpacing$Book", "gaps", "[I", true)
  | _ => ("SightSpacing$Book", "count", "I", false)
def tyX0 : Nat → FieldType := fun k => match k with
  | 0 => .array .int
  | 1 => .array .int
  | 2 => .array .int
  | _ => .int
abbrev wsX00 : List Cond := u_ws RX0 TX0 4
theorem nmX0 : ∀ a, a < 4 → ∀ b, b < 4 → a ≠ b → (TX0 a).2.1 ≠ (TX0 b).2.1 := by decide +kernel
theorem tyX0_ok : ∀ k, k < 4 → parseFieldDescriptor (TX0 k).2.2.1 = some (tyX0 k) := by decide +kernel
abbrev cX0_init : ByteArray := prog_2_method_1_code
def yX0_init : MethodName := ⟨RX0, "<init>", "()V"⟩
abbrev cX0_enter : ByteArray := prog_2_method_2_code
def yX0_enter : MethodName := ⟨RX0, "enter", "(III)Z"⟩
abbrev cX0_firstWrong : ByteArray := prog_2_method_3_code
def yX0_firstWrong : MethodName := ⟨RX0, "firstWrong", "(LSightSpacing$State;LSightSpacing$Sight;)I"⟩
def RX1 : String := "SightSpacing$Parting"
def TX1 : u_T := fun k => match k with
  | 0 => ("SightSpacing$Parting", "classOf", "[I", true)
  | 1 => ("SightSpacing$Parting", "count", "I", false)
  | 2 => ("SightSpacing$Parting", "likes", "[I", true)
  | _ => ("SightSpacing$Parting", "members", "[I", true)
def tyX1 : Nat → FieldType := fun k => match k with
  | 0 => .array .int
  | 1 => .int
  | 2 => .array .int
  | _ => .array .int
abbrev wsX10 : List Cond := u_ws RX1 TX1 4
theorem nmX1 : ∀ a, a < 4 → ∀ b, b < 4 → a ≠ b → (TX1 a).2.1 ≠ (TX1 b).2.1 := by decide +kernel
theorem tyX1_ok : ∀ k, k < 4 → parseFieldDescriptor (TX1 k).2.2.1 = some (tyX1 k) := by decide +kernel
abbrev cX1_init : ByteArray := prog_3_method_1_code
def yX1_init : MethodName := ⟨RX1, "<init>", "()V"⟩
abbrev cX1_part : ByteArray := prog_3_method_2_code
def yX1_part : MethodName := ⟨RX1, "part", "(LSightSpacing$State;I)V"⟩
abbrev cX1_likeOnes : ByteArray := prog_3_method_3_code
def yX1_likeOnes : MethodName := ⟨RX1, "likeOnes", "(LSightSpacing$State;II)I"⟩
abbrev cX1_place : ByteArray := prog_3_method_4_code
def yX1_place : MethodName := ⟨RX1, "place", "(LSightSpacing$Parting;III)Z"⟩
def RX2 : String := "SightSpacing$Past"
def TX2 : u_T := fun k => match k with
  | 0 => ("SightSpacing$Past", "states", "[LSightSpacing$State;", true)
  | 1 => ("SightSpacing$Past", "first", "I", false)
  | _ => ("SightSpacing$Past", "count", "I", false)
def tyX2 : Nat → FieldType := fun k => match k with
  | 0 => .array (.object "SightSpacing$State")
  | 1 => .int
  | _ => .int
abbrev wsX20 : List Cond := u_ws RX2 TX2 3
theorem nmX2 : ∀ a, a < 3 → ∀ b, b < 3 → a ≠ b → (TX2 a).2.1 ≠ (TX2 b).2.1 := by decide +kernel
theorem tyX2_ok : ∀ k, k < 3 → parseFieldDescriptor (TX2 k).2.2.1 = some (tyX2 k) := by decide +kernel
abbrev cX2_init : ByteArray := prog_4_method_1_code
def yX2_init : MethodName := ⟨RX2, "<init>", "()V"⟩
abbrev cX2_remember : ByteArray := prog_4_method_2_code
def yX2_remember : MethodName := ⟨RX2, "remember", "(LSightSpacing$State;)V"⟩
abbrev cX2_bringBack : ByteArray := prog_4_method_3_code
def yX2_bringBack : MethodName := ⟨RX2, "bringBack", "(ILSightSpacing$State;)V"⟩
def RX3 : String := "SightSpacing$Reader"
def TX3 : u_T := fun k => match k with
  | 0 => ("SightSpacing$Reader", "text", "[C", true)
  | 1 => ("SightSpacing$Reader", "length", "I", false)
  | 2 => ("SightSpacing$Reader", "next", "I", false)
  | 3 => ("SightSpacing$Reader", "clauses", "I", false)
  | 4 => ("SightSpacing$Reader", "faultNumber", "I", false)
  | 5 => ("SightSpacing$Reader", "faultPlace", "I", false)
  | _ => ("SightSpacing$Reader", "draft", "LSightSpacing$State;", true)
def tyX3 : Nat → FieldType := fun k => match k with
  | 0 => .array .char
  | 1 => .int
  | 2 => .int
  | 3 => .int
  | 4 => .int
  | 5 => .int
  | _ => .object "SightSpacing$State"
abbrev wsX30 : List Cond := u_ws RX3 TX3 7
theorem nmX3 : ∀ a, a < 7 → ∀ b, b < 7 → a ≠ b → (TX3 a).2.1 ≠ (TX3 b).2.1 := by decide +kernel
theorem tyX3_ok : ∀ k, k < 7 → parseFieldDescriptor (TX3 k).2.2.1 = some (tyX3 k) := by decide +kernel
abbrev cX3_init : ByteArray := prog_5_method_1_code
def yX3_init : MethodName := ⟨RX3, "<init>", "()V"⟩
abbrev cX3_take : ByteArray := prog_5_method_2_code
def yX3_take : MethodName := ⟨RX3, "take", "(I)Z"⟩
abbrev cX3_read : ByteArray := prog_5_method_3_code
def yX3_read : MethodName := ⟨RX3, "read", "(LSightSpacing$State;)V"⟩
abbrev cX3_readClause : ByteArray := prog_5_method_4_code
def yX3_readClause : MethodName := ⟨RX3, "readClause", "()V"⟩
abbrev cX3_readLetter : ByteArray := prog_5_method_5_code
def yX3_readLetter : MethodName := ⟨RX3, "readLetter", "(I)V"⟩
abbrev cX3_readPair : ByteArray := prog_5_method_6_code
def yX3_readPair : MethodName := ⟨RX3, "readPair", "(I)V"⟩
abbrev cX3_readTerm : ByteArray := prog_5_method_7_code
def yX3_readTerm : MethodName := ⟨RX3, "readTerm", "(I)V"⟩
abbrev cX3_readBy : ByteArray := prog_5_method_8_code
def yX3_readBy : MethodName := ⟨RX3, "readBy", "()V"⟩
abbrev cX3_readEdge : ByteArray := prog_5_method_9_code
def yX3_readEdge : MethodName := ⟨RX3, "readEdge", "()I"⟩
abbrev cX3_readWidth : ByteArray := prog_5_method_10_code
def yX3_readWidth : MethodName := ⟨RX3, "readWidth", "()I"⟩
abbrev cX3_readNumber : ByteArray := prog_5_method_11_code
def yX3_readNumber : MethodName := ⟨RX3, "readNumber", "(II)I"⟩
abbrev cX3_pass : ByteArray := prog_5_method_12_code
def yX3_pass : MethodName := ⟨RX3, "pass", "(I)V"⟩
abbrev cX3_passMinus : ByteArray := prog_5_method_13_code
def yX3_passMinus : MethodName := ⟨RX3, "passMinus", "()Z"⟩
abbrev cX3_passWord : ByteArray := prog_5_method_14_code
def yX3_passWord : MethodName := ⟨RX3, "passWord", "()I"⟩
abbrev cX3_skipBlanks : ByteArray := prog_5_method_15_code
def yX3_skipBlanks : MethodName := ⟨RX3, "skipBlanks", "()V"⟩
abbrev cX3_isLetter : ByteArray := prog_5_method_16_code
def yX3_isLetter : MethodName := ⟨RX3, "isLetter", "(I)Z"⟩
abbrev cX3_isFigure : ByteArray := prog_5_method_17_code
def yX3_isFigure : MethodName := ⟨RX3, "isFigure", "(I)Z"⟩
abbrev cX3_isWord : ByteArray := prog_5_method_18_code
def yX3_isWord : MethodName := ⟨RX3, "isWord", "(IILjava/lang/String;)Z"⟩
abbrev cX3_fail : ByteArray := prog_5_method_19_code
def yX3_fail : MethodName := ⟨RX3, "fail", "(II)V"⟩
def RX4 : String := "SightSpacing$Sight"
def TX4 : u_T := fun k => match k with
  | 0 => ("SightSpacing$Sight", "state", "LSightSpacing$State;", true)
  | 1 => ("SightSpacing$Sight", "lefts", "LSightSpacing$Parting;", true)
  | 2 => ("SightSpacing$Sight", "rights", "LSightSpacing$Parting;", true)
  | 3 => ("SightSpacing$Sight", "settledVersion", "I", false)
  | 4 => ("SightSpacing$Sight", "cellRight", "I", false)
  | 5 => ("SightSpacing$Sight", "cellLeft", "I", false)
  | 6 => ("SightSpacing$Sight", "pairs", "I", false)
  | 7 => ("SightSpacing$Sight", "judged", "I", false)
  | 8 => ("SightSpacing$Sight", "kept", "I", false)
  | 9 => ("SightSpacing$Sight", "keptSum", "I", false)
  | 10 => ("SightSpacing$Sight", "keptLeast", "I", false)
  | _ => ("SightSpacing$Sight", "tally", "[I", true)
def tyX4 : Nat → FieldType := fun k => match k with
  | 0 => .object "SightSpacing$State"
  | 1 => .object "SightSpacing$Parting"
  | 2 => .object "SightSpacing$Parting"
  | 3 => .int
  | 4 => .int
  | 5 => .int
  | 6 => .int
  | 7 => .int
  | 8 => .int
  | 9 => .int
  | 10 => .int
  | _ => .array .int
abbrev wsX40 : List Cond := u_ws RX4 TX4 12
theorem nmX4 : ∀ a, a < 12 → ∀ b, b < 12 → a ≠ b → (TX4 a).2.1 ≠ (TX4 b).2.1 := by decide +kernel
theorem tyX4_ok : ∀ k, k < 12 → parseFieldDescriptor (TX4 k).2.2.1 = some (tyX4 k) := by decide +kernel
abbrev cX4_init : ByteArray := prog_6_method_1_code
def yX4_init : MethodName := ⟨RX4, "<init>", "(LSightSpacing$State;)V"⟩
abbrev cX4_settle : ByteArray := prog_6_method_2_code
def yX4_settle : MethodName := ⟨RX4, "settle", "()V"⟩
abbrev cX4_survey : ByteArray := prog_6_method_3_code
def yX4_survey : MethodName := ⟨RX4, "survey", "(II)V"⟩
abbrev cX4_inCell : ByteArray := prog_6_method_4_code
def yX4_inCell : MethodName := ⟨RX4, "inCell", "(II)Z"⟩
abbrev cX4_chooseKept : ByteArray := prog_6_method_5_code
def yX4_chooseKept : MethodName := ⟨RX4, "chooseKept", "()V"⟩
abbrev cX4_chooseIfMore : ByteArray := prog_6_method_6_code
def yX4_chooseIfMore : MethodName := ⟨RX4, "chooseIfMore", "(I)V"⟩
abbrev cX4_meanParts : ByteArray := prog_6_method_7_code
def yX4_meanParts : MethodName := ⟨RX4, "meanParts", "()I"⟩
abbrev cX4_meanSum : ByteArray := prog_6_method_8_code
def yX4_meanSum : MethodName := ⟨RX4, "meanSum", "()I"⟩
abbrev cX4_gapOfCell : ByteArray := prog_6_method_9_code
def yX4_gapOfCell : MethodName := ⟨RX4, "gapOfCell", "()I"⟩
abbrev cX4_meanAbove : ByteArray := prog_6_method_10_code
def yX4_meanAbove : MethodName := ⟨RX4, "meanAbove", "()I"⟩
abbrev cX4_meanBelow : ByteArray := prog_6_method_11_code
def yX4_meanBelow : MethodName := ⟨RX4, "meanBelow", "()I"⟩
abbrev cX4_commonDivisor : ByteArray := prog_6_method_12_code
def yX4_commonDivisor : MethodName := ⟨RX4, "commonDivisor", "(II)I"⟩
abbrev cX4_isStrange : ByteArray := prog_6_method_13_code
def yX4_isStrange : MethodName := ⟨RX4, "isStrange", "(II)Z"⟩
abbrev cX4_gapOfPair : ByteArray := prog_6_method_14_code
def yX4_gapOfPair : MethodName := ⟨RX4, "gapOfPair", "(II)I"⟩
abbrev cX4_isLeftOut : ByteArray := prog_6_method_15_code
def yX4_isLeftOut : MethodName := ⟨RX4, "isLeftOut", "(II)Z"⟩
abbrev cX4_countStrange : ByteArray := prog_6_method_16_code
def yX4_countStrange : MethodName := ⟨RX4, "countStrange", "()I"⟩
abbrev cX4_misses : ByteArray := prog_6_method_17_code
def yX4_misses : MethodName := ⟨RX4, "misses", "()I"⟩
abbrev cX4_countCells : ByteArray := prog_6_method_18_code
def yX4_countCells : MethodName := ⟨RX4, "countCells", "()I"⟩
abbrev cX4_size : ByteArray := prog_6_method_19_code
def yX4_size : MethodName := ⟨RX4, "size", "()I"⟩
abbrev cX4_writeLine : ByteArray := prog_6_method_20_code
def yX4_writeLine : MethodName := ⟨RX4, "writeLine", "(ILjava/lang/StringBuilder;)V"⟩
abbrev cX4_writeStrange : ByteArray := prog_6_method_21_code
def yX4_writeStrange : MethodName := ⟨RX4, "writeStrange", "(ILjava/lang/StringBuilder;)V"⟩
def RX5 : String := "SightSpacing$State"
def TX5 : u_T := fun k => match k with
  | 0 => ("SightSpacing$State", "known", "I", false)
  | 1 => ("SightSpacing$State", "edges", "[I", true)
  | 2 => ("SightSpacing$State", "widths", "[I", true)
  | 3 => ("SightSpacing$State", "terms", "[I", true)
  | 4 => ("SightSpacing$State", "gaps", "[I", true)
  | _ => ("SightSpacing$State", "version", "I", false)
def tyX5 : Nat → FieldType := fun k => match k with
  | 0 => .int
  | 1 => .array .int
  | 2 => .array .int
  | 3 => .array .int
  | 4 => .array .int
  | _ => .int
abbrev wsX50 : List Cond := u_ws RX5 TX5 6
theorem nmX5 : ∀ a, a < 6 → ∀ b, b < 6 → a ≠ b → (TX5 a).2.1 ≠ (TX5 b).2.1 := by decide +kernel
theorem tyX5_ok : ∀ k, k < 6 → parseFieldDescriptor (TX5 k).2.2.1 = some (tyX5 k) := by decide +kernel
abbrev cX5_init : ByteArray := prog_7_method_1_code
def yX5_init : MethodName := ⟨RX5, "<init>", "()V"⟩
abbrev cX5_copyFrom : ByteArray := prog_7_method_2_code
def yX5_copyFrom : MethodName := ⟨RX5, "copyFrom", "(LSightSpacing$State;)V"⟩
abbrev cX5_knows : ByteArray := prog_7_method_3_code
def yX5_knows : MethodName := ⟨RX5, "knows", "(I)Z"⟩
abbrev cX5_knowsBoth : ByteArray := prog_7_method_4_code
def yX5_knowsBoth : MethodName := ⟨RX5, "knowsBoth", "(II)Z"⟩
abbrev cX5_countKnown : ByteArray := prog_7_method_5_code
def yX5_countKnown : MethodName := ⟨RX5, "countKnown", "()I"⟩
abbrev cX5_learn : ByteArray := prog_7_method_6_code
def yX5_learn : MethodName := ⟨RX5, "learn", "(IIII)V"⟩
abbrev cX5_drop : ByteArray := prog_7_method_7_code
def yX5_drop : MethodName := ⟨RX5, "drop", "(I)V"⟩
abbrev cX5_setGap : ByteArray := prog_7_method_8_code
def yX5_setGap : MethodName := ⟨RX5, "setGap", "(III)V"⟩
abbrev cX5_setTerm : ByteArray := prog_7_method_9_code
def yX5_setTerm : MethodName := ⟨RX5, "setTerm", "(II)V"⟩
abbrev cX5_isJudged : ByteArray := prog_7_method_10_code
def yX5_isJudged : MethodName := ⟨RX5, "isJudged", "(II)Z"⟩
abbrev cX5_judgedGap : ByteArray := prog_7_method_11_code
def yX5_judgedGap : MethodName := ⟨RX5, "judgedGap", "(II)I"⟩
abbrev cX5_countJudged : ByteArray := prog_7_method_12_code
def yX5_countJudged : MethodName := ⟨RX5, "countJudged", "()I"⟩
abbrev cX5_figure : ByteArray := prog_7_method_13_code
def yX5_figure : MethodName := ⟨RX5, "figure", "(III)I"⟩
abbrev cX5_apart : ByteArray := prog_7_method_14_code
def yX5_apart : MethodName := ⟨RX5, "apart", "(III)I"⟩
abbrev cX5_white : ByteArray := prog_7_method_15_code
def yX5_white : MethodName := ⟨RX5, "white", "(III)I"⟩
abbrev cX5_sightGap : ByteArray := prog_7_method_16_code
def yX5_sightGap : MethodName := ⟨RX5, "sightGap", "(II)I"⟩
def RX6 : String := "SightSpacing"
def TX6 : u_T := fun k => match k with
  | 0 => ("SightSpacing", "now", "LSightSpacing$State;", true)
  | 1 => ("SightSpacing", "sight", "LSightSpacing$Sight;", true)
  | 2 => ("SightSpacing", "reader", "LSightSpacing$Reader;", true)
  | 3 => ("SightSpacing", "past", "LSightSpacing$Past;", true)
  | 4 => ("SightSpacing", "book", "LSightSpacing$Book;", true)
  | 5 => ("SightSpacing", "images", "[LSightSpacing$State;", true)
  | 6 => ("SightSpacing", "imageSeeds", "[I", true)
  | 7 => ("SightSpacing", "imageKept", "[Z", true)
  | 8 => ("SightSpacing", "wordLetters", "[I", true)
  | _ => ("SightSpacing", "drawSeed", "I", false)
def tyX6 : Nat → FieldType := fun k => match k with
  | 0 => .object "SightSpacing$State"
  | 1 => .object "SightSpacing$Sight"
  | 2 => .object "SightSpacing$Reader"
  | 3 => .object "SightSpacing$Past"
  | 4 => .object "SightSpacing$Book"
  | 5 => .array (.object "SightSpacing$State")
  | 6 => .array .int
  | 7 => .array .boolean
  | 8 => .array .int
  | _ => .int
abbrev wsX60 : List Cond := u_ws RX6 TX6 10
theorem nmX6 : ∀ a, a < 10 → ∀ b, b < 10 → a ≠ b → (TX6 a).2.1 ≠ (TX6 b).2.1 := by decide +kernel
theorem tyX6_ok : ∀ k, k < 10 → parseFieldDescriptor (TX6 k).2.2.1 = some (tyX6 k) := by decide +kernel
abbrev cX6_init : ByteArray := prog_1_method_1_code
def yX6_init : MethodName := ⟨RX6, "<init>", "()V"⟩
abbrev cX6_feed : ByteArray := prog_1_method_2_code
def yX6_feed : MethodName := ⟨RX6, "feed", "(I)I"⟩
abbrev cX6_tell : ByteArray := prog_1_method_3_code
def yX6_tell : MethodName := ⟨RX6, "tell", "()I"⟩
abbrev cX6_fault : ByteArray := prog_1_method_4_code
def yX6_fault : MethodName := ⟨RX6, "fault", "()I"⟩
abbrev cX6_told : ByteArray := prog_1_method_5_code
def yX6_told : MethodName := ⟨RX6, "told", "(I)I"⟩
abbrev cX6_edge : ByteArray := prog_1_method_6_code
def yX6_edge : MethodName := ⟨RX6, "edge", "(III)I"⟩
abbrev cX6_at : ByteArray := prog_1_method_7_code
def yX6_at : MethodName := ⟨RX6, "at", "(II)I"⟩
abbrev cX6_far : ByteArray := prog_1_method_8_code
def yX6_far : MethodName := ⟨RX6, "far", "(III)I"⟩
abbrev cX6_pair : ByteArray := prog_1_method_9_code
def yX6_pair : MethodName := ⟨RX6, "pair", "(III)I"⟩
abbrev cX6_cell : ByteArray := prog_1_method_10_code
def yX6_cell : MethodName := ⟨RX6, "cell", "(III)I"⟩
abbrev cX6_line : ByteArray := prog_1_method_11_code
def yX6_line : MethodName := ⟨RX6, "line", "(II)I"⟩
abbrev cX6_word : ByteArray := prog_1_method_12_code
def yX6_word : MethodName := ⟨RX6, "word", "(IIIIII)I"⟩
abbrev cX6_letter : ByteArray := prog_1_method_13_code
def yX6_letter : MethodName := ⟨RX6, "letter", "(IIII)I"⟩
abbrev cX6_forget : ByteArray := prog_1_method_14_code
def yX6_forget : MethodName := ⟨RX6, "forget", "(I)I"⟩
abbrev cX6_judge : ByteArray := prog_1_method_15_code
def yX6_judge : MethodName := ⟨RX6, "judge", "(III)I"⟩
abbrev cX6_withdraw : ByteArray := prog_1_method_16_code
def yX6_withdraw : MethodName := ⟨RX6, "withdraw", "(II)I"⟩
abbrev cX6_term : ByteArray := prog_1_method_17_code
def yX6_term : MethodName := ⟨RX6, "term", "(II)I"⟩
abbrev cX6_drift : ByteArray := prog_1_method_18_code
def yX6_drift : MethodName := ⟨RX6, "drift", "(I)I"⟩
abbrev cX6_undo : ByteArray := prog_1_method_19_code
def yX6_undo : MethodName := ⟨RX6, "undo", "(I)I"⟩
abbrev cX6_write : ByteArray := prog_1_method_20_code
def yX6_write : MethodName := ⟨RX6, "write", "(III)I"⟩
abbrev cX6_tear : ByteArray := prog_1_method_21_code
def yX6_tear : MethodName := ⟨RX6, "tear", "()I"⟩
abbrev cX6_seed : ByteArray := prog_1_method_22_code
def yX6_seed : MethodName := ⟨RX6, "seed", "(I)I"⟩
abbrev cX6_keep : ByteArray := prog_1_method_23_code
def yX6_keep : MethodName := ⟨RX6, "keep", "(I)I"⟩
abbrev cX6_goBack : ByteArray := prog_1_method_24_code
def yX6_goBack : MethodName := ⟨RX6, "goBack", "(I)I"⟩
abbrev cX6_isSide : ByteArray := prog_1_method_25_code
def yX6_isSide : MethodName := ⟨RX6, "isSide", "(I)Z"⟩
abbrev cX6_isEdge : ByteArray := prog_1_method_26_code
def yX6_isEdge : MethodName := ⟨RX6, "isEdge", "(I)Z"⟩
abbrev cX6_driftOnce : ByteArray := prog_1_method_27_code
def yX6_driftOnce : MethodName := ⟨RX6, "driftOnce", "()V"⟩
abbrev cX6_drawEdge : ByteArray := prog_1_method_28_code
def yX6_drawEdge : MethodName := ⟨RX6, "drawEdge", "()I"⟩
abbrev cX6_draw : ByteArray := prog_1_method_29_code
def yX6_draw : MethodName := ⟨RX6, "draw", "(I)I"⟩
def RX7 : String := "SightSpacingModel"
def TX7 : u_T := fun k => match k with
  | 0 => ("SightSpacingModel", "w", "[I", true)
  | 1 => ("SightSpacingModel", "known", "I", false)
  | 2 => ("SightSpacingModel", "kept", "I", false)
  | 3 => ("SightSpacingModel", "seed", "I", false)
  | 4 => ("SightSpacingModel", "imageSeed", "[I", true)
  | 5 => ("SightSpacingModel", "text", "[I", true)
  | 6 => ("SightSpacingModel", "size", "I", false)
  | 7 => ("SightSpacingModel", "faultAt", "I", false)
  | 8 => ("SightSpacingModel", "bookOf", "[I", true)
  | 9 => ("SightSpacingModel", "bookTo", "[I", true)
  | 10 => ("SightSpacingModel", "bookIs", "[I", true)
  | 11 => ("SightSpacingModel", "written", "I", false)
  | 12 => ("SightSpacingModel", "classOf", "[I", true)
  | 13 => ("SightSpacingModel", "classes", "[I", true)
  | 14 => ("SightSpacingModel", "at", "I", false)
  | 15 => ("SightSpacingModel", "fault", "I", false)
  | 16 => ("SightSpacingModel", "lineOf", "[I", true)
  | 17 => ("SightSpacingModel", "lineSize", "I", false)
  | _ => ("SightSpacingModel", "wordLetters", "[I", true)
def tyX7 : Nat → FieldType := fun k => match k with
  | 0 => .array .int
  | 1 => .int
  | 2 => .int
  | 3 => .int
  | 4 => .array .int
  | 5 => .array .int
  | 6 => .int
  | 7 => .int
  | 8 => .array .int
  | 9 => .array .int
  | 10 => .array .int
  | 11 => .int
  | 12 => .array .int
  | 13 => .array .int
  | 14 => .int
  | 15 => .int
  | 16 => .array .int
  | 17 => .int
  | _ => .array .int
abbrev wsX70 : List Cond := u_ws RX7 TX7 19
theorem nmX7 : ∀ a, a < 19 → ∀ b, b < 19 → a ≠ b → (TX7 a).2.1 ≠ (TX7 b).2.1 := by decide +kernel
theorem tyX7_ok : ∀ k, k < 19 → parseFieldDescriptor (TX7 k).2.2.1 = some (tyX7 k) := by decide +kernel
abbrev cX7_init : ByteArray := prog_9_method_1_code
def yX7_init : MethodName := ⟨RX7, "<init>", "()V"⟩
abbrev cX7_in : ByteArray := prog_9_method_2_code
def yX7_in : MethodName := ⟨RX7, "in", "(JJJ)Z"⟩
abbrev cX7_has : ByteArray := prog_9_method_3_code
def yX7_has : MethodName := ⟨RX7, "has", "(II)Z"⟩
abbrev cX7_copyRow : ByteArray := prog_9_method_4_code
def yX7_copyRow : MethodName := ⟨RX7, "copyRow", "(II)V"⟩
abbrev cX7_remember : ByteArray := prog_9_method_5_code
def yX7_remember : MethodName := ⟨RX7, "remember", "()V"⟩
abbrev cX7_termOf : ByteArray := prog_9_method_6_code
def yX7_termOf : MethodName := ⟨RX7, "termOf", "(I)I"⟩
abbrev cX7_isKnown : ByteArray := prog_9_method_7_code
def yX7_isKnown : MethodName := ⟨RX7, "isKnown", "(I)Z"⟩
abbrev cX7_edgeOf : ByteArray := prog_9_method_8_code
def yX7_edgeOf : MethodName := ⟨RX7, "edgeOf", "(III)I"⟩
abbrev cX7_judgedOf : ByteArray := prog_9_method_9_code
def yX7_judgedOf : MethodName := ⟨RX7, "judgedOf", "(II)I"⟩
abbrev cX7_farOf : ByteArray := prog_9_method_10_code
def yX7_farOf : MethodName := ⟨RX7, "farOf", "(III)I"⟩
abbrev cX7_fits : ByteArray := prog_9_method_11_code
def yX7_fits : MethodName := ⟨RX7, "fits", "(III)Z"⟩
abbrev cX7_usedAhead : ByteArray := prog_9_method_12_code
def yX7_usedAhead : MethodName := ⟨RX7, "usedAhead", "(II)I"⟩
abbrev cX7_nextNumber : ByteArray := prog_9_method_13_code
def yX7_nextNumber : MethodName := ⟨RX7, "nextNumber", "(IIII)I"⟩
abbrev cX7_parts : ByteArray := prog_9_method_14_code
def yX7_parts : MethodName := ⟨RX7, "parts", "(II)Z"⟩
abbrev cX7_layClasses : ByteArray := prog_9_method_15_code
def yX7_layClasses : MethodName := ⟨RX7, "layClasses", "()V"⟩
abbrev cX7_white : ByteArray := prog_9_method_16_code
def yX7_white : MethodName := ⟨RX7, "white", "(III)I"⟩
abbrev cX7_sight : ByteArray := prog_9_method_17_code
def yX7_sight : MethodName := ⟨RX7, "sight", "(II)I"⟩
abbrev cX7_isIn : ByteArray := prog_9_method_18_code
def yX7_isIn : MethodName := ⟨RX7, "isIn", "(IIII)Z"⟩
abbrev cX7_window : ByteArray := prog_9_method_19_code
def yX7_window : MethodName := ⟨RX7, "window", "(IIIIZ)I"⟩
abbrev cX7_windowOf : ByteArray := prog_9_method_20_code
def yX7_windowOf : MethodName := ⟨RX7, "windowOf", "(II)I"⟩
abbrev cX7_isStrange : ByteArray := prog_9_method_21_code
def yX7_isStrange : MethodName := ⟨RX7, "isStrange", "(II)Z"⟩
abbrev cX7_pairsIn : ByteArray := prog_9_method_22_code
def yX7_pairsIn : MethodName := ⟨RX7, "pairsIn", "(II)I"⟩
abbrev cX7_keptIn : ByteArray := prog_9_method_23_code
def yX7_keptIn : MethodName := ⟨RX7, "keptIn", "(II)I"⟩
abbrev cX7_above : ByteArray := prog_9_method_24_code
def yX7_above : MethodName := ⟨RX7, "above", "(II)I"⟩
abbrev cX7_below : ByteArray := prog_9_method_25_code
def yX7_below : MethodName := ⟨RX7, "below", "(II)I"⟩
abbrev cX7_cellGap : ByteArray := prog_9_method_26_code
def yX7_cellGap : MethodName := ⟨RX7, "cellGap", "(II)I"⟩
abbrev cX7_gapOf : ByteArray := prog_9_method_27_code
def yX7_gapOf : MethodName := ⟨RX7, "gapOf", "(II)I"⟩
abbrev cX7_divisor : ByteArray := prog_9_method_28_code
def yX7_divisor : MethodName := ⟨RX7, "divisor", "(II)I"⟩
abbrev cX7_judgedMany : ByteArray := prog_9_method_29_code
def yX7_judgedMany : MethodName := ⟨RX7, "judgedMany", "()I"⟩
abbrev cX7_strangeMany : ByteArray := prog_9_method_30_code
def yX7_strangeMany : MethodName := ⟨RX7, "strangeMany", "()I"⟩
abbrev cX7_misses : ByteArray := prog_9_method_31_code
def yX7_misses : MethodName := ⟨RX7, "misses", "()I"⟩
abbrev cX7_here : ByteArray := prog_9_method_32_code
def yX7_here : MethodName := ⟨RX7, "here", "()I"⟩
abbrev cX7_fail : ByteArray := prog_9_method_33_code
def yX7_fail : MethodName := ⟨RX7, "fail", "(II)V"⟩
abbrev cX7_skip : ByteArray := prog_9_method_34_code
def yX7_skip : MethodName := ⟨RX7, "skip", "()V"⟩
abbrev cX7_isFigure : ByteArray := prog_9_method_35_code
def yX7_isFigure : MethodName := ⟨RX7, "isFigure", "(I)Z"⟩
abbrev cX7_isSmall : ByteArray := prog_9_method_36_code
def yX7_isSmall : MethodName := ⟨RX7, "isSmall", "(I)Z"⟩
abbrev cX7_want : ByteArray := prog_9_method_37_code
def yX7_want : MethodName := ⟨RX7, "want", "(I)V"⟩
abbrev cX7_figure : ByteArray := prog_9_method_38_code
def yX7_figure : MethodName := ⟨RX7, "figure", "(I)I"⟩
abbrev cX7_number : ByteArray := prog_9_method_39_code
def yX7_number : MethodName := ⟨RX7, "number", "(II)I"⟩
abbrev cX7_readEdge : ByteArray := prog_9_method_40_code
def yX7_readEdge : MethodName := ⟨RX7, "readEdge", "(II)V"⟩
abbrev cX7_letterClause : ByteArray := prog_9_method_41_code
def yX7_letterClause : MethodName := ⟨RX7, "letterClause", "(I)V"⟩
abbrev cX7_pairClause : ByteArray := prog_9_method_42_code
def yX7_pairClause : MethodName := ⟨RX7, "pairClause", "(III)V"⟩
abbrev cX7_wordOf : ByteArray := prog_9_method_43_code
def yX7_wordOf : MethodName := ⟨RX7, "wordOf", "([III)J"⟩
abbrev cX7_five : ByteArray := prog_9_method_44_code
def yX7_five : MethodName := ⟨RX7, "five", "(IIII)J"⟩
abbrev cX7_byClause : ByteArray := prog_9_method_45_code
def yX7_byClause : MethodName := ⟨RX7, "byClause", "()V"⟩
abbrev cX7_termClause : ByteArray := prog_9_method_46_code
def yX7_termClause : MethodName := ⟨RX7, "termClause", "(JI)V"⟩
abbrev cX7_clause : ByteArray := prog_9_method_47_code
def yX7_clause : MethodName := ⟨RX7, "clause", "()V"⟩
abbrev cX7_feed : ByteArray := prog_9_method_48_code
def yX7_feed : MethodName := ⟨RX7, "feed", "(I)I"⟩
abbrev cX7_tell : ByteArray := prog_9_method_49_code
def yX7_tell : MethodName := ⟨RX7, "tell", "()I"⟩
abbrev cX7_fault : ByteArray := prog_9_method_50_code
def yX7_fault : MethodName := ⟨RX7, "fault", "()I"⟩
abbrev cX7_put : ByteArray := prog_9_method_51_code
def yX7_put : MethodName := ⟨RX7, "put", "(I)V"⟩
abbrev cX7_putNumber : ByteArray := prog_9_method_52_code
def yX7_putNumber : MethodName := ⟨RX7, "putNumber", "(I)V"⟩
abbrev cX7_layCell : ByteArray := prog_9_method_53_code
def yX7_layCell : MethodName := ⟨RX7, "layCell", "(II)V"⟩
abbrev cX7_layPair : ByteArray := prog_9_method_54_code
def yX7_layPair : MethodName := ⟨RX7, "layPair", "(II)V"⟩
abbrev cX7_layLine : ByteArray := prog_9_method_55_code
def yX7_layLine : MethodName := ⟨RX7, "layLine", "(I)Z"⟩
abbrev cX7_line : ByteArray := prog_9_method_56_code
def yX7_line : MethodName := ⟨RX7, "line", "(II)I"⟩
abbrev cX7_wrong : ByteArray := prog_9_method_57_code
def yX7_wrong : MethodName := ⟨RX7, "wrong", "()I"⟩
abbrev cX7_toldMore : ByteArray := prog_9_method_58_code
def yX7_toldMore : MethodName := ⟨RX7, "toldMore", "(I)I"⟩
abbrev cX7_told : ByteArray := prog_9_method_59_code
def yX7_told : MethodName := ⟨RX7, "told", "(I)I"⟩
abbrev cX7_edge : ByteArray := prog_9_method_60_code
def yX7_edge : MethodName := ⟨RX7, "edge", "(III)I"⟩
abbrev cX7_at : ByteArray := prog_9_method_61_code
def yX7_at : MethodName := ⟨RX7, "at", "(II)I"⟩
abbrev cX7_far : ByteArray := prog_9_method_62_code
def yX7_far : MethodName := ⟨RX7, "far", "(III)I"⟩
abbrev cX7_pair : ByteArray := prog_9_method_63_code
def yX7_pair : MethodName := ⟨RX7, "pair", "(III)I"⟩
abbrev cX7_cell : ByteArray := prog_9_method_64_code
def yX7_cell : MethodName := ⟨RX7, "cell", "(III)I"⟩
abbrev cX7_word : ByteArray := prog_9_method_65_code
def yX7_word : MethodName := ⟨RX7, "word", "(IIIIII)I"⟩
abbrev cX7_ones : ByteArray := prog_9_method_66_code
def yX7_ones : MethodName := ⟨RX7, "ones", "(I)I"⟩
abbrev cX7_setEdge : ByteArray := prog_9_method_67_code
def yX7_setEdge : MethodName := ⟨RX7, "setEdge", "(III)V"⟩
abbrev cX7_letter : ByteArray := prog_9_method_68_code
def yX7_letter : MethodName := ⟨RX7, "letter", "(IIII)I"⟩
abbrev cX7_forget : ByteArray := prog_9_method_69_code
def yX7_forget : MethodName := ⟨RX7, "forget", "(I)I"⟩
abbrev cX7_judge : ByteArray := prog_9_method_70_code
def yX7_judge : MethodName := ⟨RX7, "judge", "(III)I"⟩
abbrev cX7_withdraw : ByteArray := prog_9_method_71_code
def yX7_withdraw : MethodName := ⟨RX7, "withdraw", "(II)I"⟩
abbrev cX7_mostOf : ByteArray := prog_9_method_72_code
def yX7_mostOf : MethodName := ⟨RX7, "mostOf", "(I)I"⟩
abbrev cX7_term : ByteArray := prog_9_method_73_code
def yX7_term : MethodName := ⟨RX7, "term", "(II)I"⟩
abbrev cX7_draw : ByteArray := prog_9_method_74_code
def yX7_draw : MethodName := ⟨RX7, "draw", "(I)I"⟩
abbrev cX7_chance : ByteArray := prog_9_method_75_code
def yX7_chance : MethodName := ⟨RX7, "chance", "()V"⟩
abbrev cX7_drift : ByteArray := prog_9_method_76_code
def yX7_drift : MethodName := ⟨RX7, "drift", "(I)I"⟩
abbrev cX7_undo : ByteArray := prog_9_method_77_code
def yX7_undo : MethodName := ⟨RX7, "undo", "(I)I"⟩
abbrev cX7_write : ByteArray := prog_9_method_78_code
def yX7_write : MethodName := ⟨RX7, "write", "(III)I"⟩
abbrev cX7_tear : ByteArray := prog_9_method_79_code
def yX7_tear : MethodName := ⟨RX7, "tear", "()I"⟩
abbrev cX7_seed : ByteArray := prog_9_method_80_code
def yX7_seed : MethodName := ⟨RX7, "seed", "(I)I"⟩
abbrev cX7_keep : ByteArray := prog_9_method_81_code
def yX7_keep : MethodName := ⟨RX7, "keep", "(I)I"⟩
abbrev cX7_goBack : ByteArray := prog_9_method_82_code
def yX7_goBack : MethodName := ⟨RX7, "goBack", "(I)I"⟩
def RJ5 : String := "java/lang/AbstractStringBuilder"
def TJ5 : u_T := fun k => match k with
  | _ => ("", "", "", false)
def tyJ5 : Nat → FieldType := fun k => match k with
  | _ => .int
abbrev wsJ50 : List Cond := u_ws RJ5 TJ5 0
theorem nmJ5 : ∀ a, a < 0 → ∀ b, b < 0 → a ≠ b → (TJ5 a).2.1 ≠ (TJ5 b).2.1 := by decide +kernel
theorem tyJ5_ok : ∀ k, k < 0 → parseFieldDescriptor (TJ5 k).2.2.1 = some (tyJ5 k) := by decide +kernel
abbrev cJ5_init_d00df : ByteArray := prog_10_method_2_code
def yJ5_init_d00df : MethodName := ⟨RJ5, "<init>", "(I)V"⟩
abbrev cJ5_length_8abf5 : ByteArray := prog_10_method_6_code
def yJ5_length_8abf5 : MethodName := ⟨RJ5, "length", "()I"⟩
abbrev cJ5_ensureCapacityInternal_d00df : ByteArray := prog_10_method_9_code
def yJ5_ensureCapacityInternal_d00df : MethodName := ⟨RJ5, "ensureCapacityInternal", "(I)V"⟩
abbrev cJ5_newCapacity_0f7a4 : ByteArray := prog_10_method_10_code
def yJ5_newCapacity_0f7a4 : MethodName := ⟨RJ5, "newCapacity", "(I)I"⟩
abbrev cJ5_inflate_da8c8 : ByteArray := prog_10_method_11_code
def yJ5_inflate_da8c8 : MethodName := ⟨RJ5, "inflate", "()V"⟩
abbrev cJ5_charAt_5068e : ByteArray := prog_10_method_14_code
def yJ5_charAt_5068e : MethodName := ⟨RJ5, "charAt", "(I)C"⟩
abbrev cJ5_append_3fe6f : ByteArray := prog_10_method_31_code
def yJ5_append_3fe6f : MethodName := ⟨RJ5, "append", "(C)Ljava/lang/AbstractStringBuilder;"⟩
abbrev cJ5_append_c97b9 : ByteArray := prog_10_method_32_code
def yJ5_append_c97b9 : MethodName := ⟨RJ5, "append", "(I)Ljava/lang/AbstractStringBuilder;"⟩
abbrev cJ5_isLatin1_aae02 : ByteArray := prog_10_method_68_code
def yJ5_isLatin1_aae02 : MethodName := ⟨RJ5, "isLatin1", "()Z"⟩
def RJx8e188 : String := "java/lang/Cloneable"
def TJx8e188 : u_T := fun k => match k with
  | _ => ("", "", "", false)
def tyJx8e188 : Nat → FieldType := fun k => match k with
  | _ => .int
abbrev wsJx8e1880 : List Cond := u_ws RJx8e188 TJx8e188 0
theorem nmJx8e188 : ∀ a, a < 0 → ∀ b, b < 0 → a ≠ b → (TJx8e188 a).2.1 ≠ (TJx8e188 b).2.1 := by decide +kernel
theorem tyJx8e188_ok : ∀ k, k < 0 → parseFieldDescriptor (TJx8e188 k).2.2.1 = some (tyJx8e188 k) := by decide +kernel
def RJ6 : String := "java/lang/Integer"
def TJ6 : u_T := fun k => match k with
  | _ => ("", "", "", false)
def tyJ6 : Nat → FieldType := fun k => match k with
  | _ => .int
abbrev wsJ60 : List Cond := u_ws RJ6 TJ6 0
theorem nmJ6 : ∀ a, a < 0 → ∀ b, b < 0 → a ≠ b → (TJ6 a).2.1 ≠ (TJ6 b).2.1 := by decide +kernel
theorem tyJ6_ok : ∀ k, k < 0 → parseFieldDescriptor (TJ6 k).2.2.1 = some (tyJ6 k) := by decide +kernel
abbrev cJ6_getChars_ba4f3 : ByteArray := prog_12_method_12_code
def yJ6_getChars_ba4f3 : MethodName := ⟨RJ6, "getChars", "(II[B)I"⟩
abbrev cJ6_stringSize_0f7a4 : ByteArray := prog_12_method_13_code
def yJ6_stringSize_0f7a4 : MethodName := ⟨RJ6, "stringSize", "(I)I"⟩
abbrev cJ6_bitCount_0f7a4 : ByteArray := prog_12_method_49_code
def yJ6_bitCount_0f7a4 : MethodName := ⟨RJ6, "bitCount", "(I)I"⟩
def RJ9 : String := "java/lang/Math"
def TJ9 : u_T := fun k => match k with
  | _ => ("", "", "", false)
def tyJ9 : Nat → FieldType := fun k => match k with
  | _ => .int
abbrev wsJ90 : List Cond := u_ws RJ9 TJ9 0
theorem nmJ9 : ∀ a, a < 0 → ∀ b, b < 0 → a ≠ b → (TJ9 a).2.1 ≠ (TJ9 b).2.1 := by decide +kernel
theorem tyJ9_ok : ∀ k, k < 0 → parseFieldDescriptor (TJ9 k).2.2.1 = some (tyJ9 k) := by decide +kernel
abbrev cJ9_floorDiv_7cf53 : ByteArray := prog_13_method_47_code
def yJ9_floorDiv_7cf53 : MethodName := ⟨RJ9, "floorDiv", "(II)I"⟩
abbrev cJ9_abs_0f7a4 : ByteArray := prog_13_method_59_code
def yJ9_abs_0f7a4 : MethodName := ⟨RJ9, "abs", "(I)I"⟩
abbrev cJ9_max_7cf53 : ByteArray := prog_13_method_65_code
def yJ9_max_7cf53 : MethodName := ⟨RJ9, "max", "(II)I"⟩
abbrev cJ9_min_7cf53 : ByteArray := prog_13_method_69_code
def yJ9_min_7cf53 : MethodName := ⟨RJ9, "min", "(II)I"⟩
def RJ0 : String := "java/lang/String"
def TJ0 : u_T := fun k => match k with
  | _ => ("", "", "", false)
def tyJ0 : Nat → FieldType := fun k => match k with
  | _ => .int
abbrev wsJ00 : List Cond := u_ws RJ0 TJ0 0
theorem nmJ0 : ∀ a, a < 0 → ∀ b, b < 0 → a ≠ b → (TJ0 a).2.1 ≠ (TJ0 b).2.1 := by decide +kernel
theorem tyJ0_ok : ∀ k, k < 0 → parseFieldDescriptor (TJ0 k).2.2.1 = some (tyJ0 k) := by decide +kernel
abbrev cJ0_length_8abf5 : ByteArray := prog_14_method_54_code
def yJ0_length_8abf5 : MethodName := ⟨RJ0, "length", "()I"⟩
abbrev cJ0_charAt_5068e : ByteArray := prog_14_method_56_code
def yJ0_charAt_5068e : MethodName := ⟨RJ0, "charAt", "(I)C"⟩
abbrev cJ0_coder_7d493 : ByteArray := prog_14_method_152_code
def yJ0_coder_7d493 : MethodName := ⟨RJ0, "coder", "()B"⟩
abbrev cJ0_isLatin1_aae02 : ByteArray := prog_14_method_154_code
def yJ0_isLatin1_aae02 : MethodName := ⟨RJ0, "isLatin1", "()Z"⟩
abbrev cJ0_checkIndex_df160 : ByteArray := prog_14_method_155_code
def yJ0_checkIndex_df160 : MethodName := ⟨RJ0, "checkIndex", "(II)V"⟩
abbrev cJ0_checkBoundsOffCount_cabcc : ByteArray := prog_14_method_157_code
def yJ0_checkBoundsOffCount_cabcc : MethodName := ⟨RJ0, "checkBoundsOffCount", "(III)I"⟩
abbrev cJ0_checkBoundsBeginEnd_23922 : ByteArray := prog_14_method_158_code
def yJ0_checkBoundsBeginEnd_23922 : MethodName := ⟨RJ0, "checkBoundsBeginEnd", "(III)V"⟩
def RJ4 : String := "java/lang/StringBuilder"
def TJ4 : u_T := fun k => match k with
  | 0 => ("java/lang/AbstractStringBuilder", "value", "[B", false)
  | 1 => ("java/lang/AbstractStringBuilder", "coder", "B", false)
  | 2 => ("java/lang/AbstractStringBuilder", "maybeLatin1", "Z", false)
  | _ => ("java/lang/AbstractStringBuilder", "count", "I", false)
def tyJ4 : Nat → FieldType := fun k => match k with
  | 0 => .array .byte
  | 1 => .byte
  | 2 => .boolean
  | _ => .int
abbrev wsJ40 : List Cond := u_ws RJ4 TJ4 4
theorem nmJ4 : ∀ a, a < 4 → ∀ b, b < 4 → a ≠ b → (TJ4 a).2.1 ≠ (TJ4 b).2.1 := by decide +kernel
theorem tyJ4_ok : ∀ k, k < 4 → parseFieldDescriptor (TJ4 k).2.2.1 = some (tyJ4 k) := by decide +kernel
abbrev cJ4_init_da8c8 : ByteArray := prog_15_method_1_code
def yJ4_init_da8c8 : MethodName := ⟨RJ4, "<init>", "()V"⟩
abbrev cJ4_append_cf468 : ByteArray := prog_15_method_14_code
def yJ4_append_cf468 : MethodName := ⟨RJ4, "append", "(C)Ljava/lang/StringBuilder;"⟩
abbrev cJ4_append_bf812 : ByteArray := prog_15_method_15_code
def yJ4_append_bf812 : MethodName := ⟨RJ4, "append", "(I)Ljava/lang/StringBuilder;"⟩
abbrev cJ4_charAt_5068e : ByteArray := prog_15_method_88_code
def yJ4_charAt_5068e : MethodName := ⟨RJ4, "charAt", "(I)C"⟩
abbrev cJ4_length_8abf5 : ByteArray := prog_15_method_93_code
def yJ4_length_8abf5 : MethodName := ⟨RJ4, "length", "()I"⟩
def RJ1 : String := "java/lang/StringLatin1"
def TJ1 : u_T := fun k => match k with
  | _ => ("", "", "", false)
def tyJ1 : Nat → FieldType := fun k => match k with
  | _ => .int
abbrev wsJ10 : List Cond := u_ws RJ1 TJ1 0
theorem nmJ1 : ∀ a, a < 0 → ∀ b, b < 0 → a ≠ b → (TJ1 a).2.1 ≠ (TJ1 b).2.1 := by decide +kernel
theorem tyJ1_ok : ∀ k, k < 0 → parseFieldDescriptor (TJ1 k).2.2.1 = some (tyJ1 k) := by decide +kernel
abbrev cJ1_charAt_3b067 : ByteArray := prog_16_method_2_code
def yJ1_charAt_3b067 : MethodName := ⟨RJ1, "charAt", "([BI)C"⟩
abbrev cJ1_canEncode_fc78d : ByteArray := prog_16_method_3_code
def yJ1_canEncode_fc78d : MethodName := ⟨RJ1, "canEncode", "(C)Z"⟩
abbrev cJ1_inflate_0e8fd : ByteArray := prog_16_method_50_code
def yJ1_inflate_0e8fd : MethodName := ⟨RJ1, "inflate", "([BI[BII)V"⟩
def RJ2 : String := "java/lang/StringUTF16"
def TJ2 : u_T := fun k => match k with
  | _ => ("", "", "", false)
def tyJ2 : Nat → FieldType := fun k => match k with
  | _ => .int
abbrev wsJ20 : List Cond := u_ws RJ2 TJ2 0
theorem nmJ2 : ∀ a, a < 0 → ∀ b, b < 0 → a ≠ b → (TJ2 a).2.1 ≠ (TJ2 b).2.1 := by decide +kernel
theorem tyJ2_ok : ∀ k, k < 0 → parseFieldDescriptor (TJ2 k).2.2.1 = some (tyJ2 k) := by decide +kernel
abbrev cJ2_newBytesFor_77867 : ByteArray := prog_17_method_2_code
def yJ2_newBytesFor_77867 : MethodName := ⟨RJ2, "newBytesFor", "(I)[B"⟩
abbrev cJ2_newBytesLength_0f7a4 : ByteArray := prog_17_method_3_code
def yJ2_newBytesLength_0f7a4 : MethodName := ⟨RJ2, "newBytesLength", "(I)I"⟩
abbrev cJ2_putChar_b72d1 : ByteArray := prog_17_method_4_code
def yJ2_putChar_b72d1 : MethodName := ⟨RJ2, "putChar", "([BII)V"⟩
abbrev cJ2_getChar_3b067 : ByteArray := prog_17_method_5_code
def yJ2_getChar_3b067 : MethodName := ⟨RJ2, "getChar", "([BI)C"⟩
abbrev cJ2_length_9d52b : ByteArray := prog_17_method_6_code
def yJ2_length_9d52b : MethodName := ⟨RJ2, "length", "([B)I"⟩
abbrev cJ2_putCharSB_b72d1 : ByteArray := prog_17_method_71_code
def yJ2_putCharSB_b72d1 : MethodName := ⟨RJ2, "putCharSB", "([BII)V"⟩
abbrev cJ2_getChars_46870 : ByteArray := prog_17_method_77_code
def yJ2_getChars_46870 : MethodName := ⟨RJ2, "getChars", "(III[B)I"⟩
abbrev cJ2_charAt_3b067 : ByteArray := prog_17_method_83_code
def yJ2_charAt_3b067 : MethodName := ⟨RJ2, "charAt", "([BI)C"⟩
abbrev cJ2_inflate_0e8fd : ByteArray := prog_17_method_86_code
def yJ2_inflate_0e8fd : MethodName := ⟨RJ2, "inflate", "([BI[BII)V"⟩
abbrev cJ2_getChars_ba4f3 : ByteArray := prog_17_method_89_code
def yJ2_getChars_ba4f3 : MethodName := ⟨RJ2, "getChars", "(II[B)I"⟩
abbrev cJ2_checkIndex_2214a : ByteArray := prog_17_method_91_code
def yJ2_checkIndex_2214a : MethodName := ⟨RJ2, "checkIndex", "(I[B)V"⟩
abbrev cJ2_checkBoundsBeginEnd_d044e : ByteArray := prog_17_method_93_code
def yJ2_checkBoundsBeginEnd_d044e : MethodName := ⟨RJ2, "checkBoundsBeginEnd", "(II[B)V"⟩
abbrev cJ2_checkBoundsOffCount_d044e : ByteArray := prog_17_method_94_code
def yJ2_checkBoundsOffCount_d044e : MethodName := ⟨RJ2, "checkBoundsOffCount", "(II[B)V"⟩
def RJ10 : String := "java/lang/System"
def TJ10 : u_T := fun k => match k with
  | _ => ("", "", "", false)
def tyJ10 : Nat → FieldType := fun k => match k with
  | _ => .int
abbrev wsJ100 : List Cond := u_ws RJ10 TJ10 0
theorem nmJ10 : ∀ a, a < 0 → ∀ b, b < 0 → a ≠ b → (TJ10 a).2.1 ≠ (TJ10 b).2.1 := by decide +kernel
theorem tyJ10_ok : ∀ k, k < 0 → parseFieldDescriptor (TJ10 k).2.2.1 = some (tyJ10 k) := by decide +kernel
def RJ7 : String := "java/util/Arrays"
def TJ7 : u_T := fun k => match k with
  | _ => ("", "", "", false)
def tyJ7 : Nat → FieldType := fun k => match k with
  | _ => .int
abbrev wsJ70 : List Cond := u_ws RJ7 TJ7 0
theorem nmJ7 : ∀ a, a < 0 → ∀ b, b < 0 → a ≠ b → (TJ7 a).2.1 ≠ (TJ7 b).2.1 := by decide +kernel
theorem tyJ7_ok : ∀ k, k < 0 → parseFieldDescriptor (TJ7 k).2.2.1 = some (tyJ7 k) := by decide +kernel
abbrev cJ7_copyOf_9075b : ByteArray := prog_19_method_121_code
def yJ7_copyOf_9075b : MethodName := ⟨RJ7, "copyOf", "([BI)[B"⟩
def RJ8 : String := "jdk/internal/util/ArraysSupport"
def TJ8 : u_T := fun k => match k with
  | _ => ("", "", "", false)
def tyJ8 : Nat → FieldType := fun k => match k with
  | _ => .int
abbrev wsJ80 : List Cond := u_ws RJ8 TJ8 0
theorem nmJ8 : ∀ a, a < 0 → ∀ b, b < 0 → a ≠ b → (TJ8 a).2.1 ≠ (TJ8 b).2.1 := by decide +kernel
theorem tyJ8_ok : ∀ k, k < 0 → parseFieldDescriptor (TJ8 k).2.2.1 = some (tyJ8 k) := by decide +kernel
abbrev cJ8_newLength_cabcc : ByteArray := prog_20_method_27_code
def yJ8_newLength_cabcc : MethodName := ⟨RJ8, "newLength", "(III)I"⟩
abbrev cJ8_hugeLength_7cf53 : ByteArray := prog_20_method_28_code
def yJ8_hugeLength_7cf53 : MethodName := ⟨RJ8, "hugeLength", "(II)I"⟩
def RJ3 : String := "jdk/internal/util/Preconditions"
def TJ3 : u_T := fun k => match k with
  | _ => ("", "", "", false)
def tyJ3 : Nat → FieldType := fun k => match k with
  | _ => .int
abbrev wsJ30 : List Cond := u_ws RJ3 TJ3 0
theorem nmJ3 : ∀ a, a < 0 → ∀ b, b < 0 → a ≠ b → (TJ3 a).2.1 ≠ (TJ3 b).2.1 := by decide +kernel
theorem tyJ3_ok : ∀ k, k < 0 → parseFieldDescriptor (TJ3 k).2.2.1 = some (tyJ3 k) := by decide +kernel
abbrev cJ3_checkIndex_8e157 : ByteArray := prog_21_method_11_code
def yJ3_checkIndex_8e157 : MethodName := ⟨RJ3, "checkIndex", "(IILjava/util/function/BiFunction;)I"⟩
abbrev cJ3_checkFromToIndex_8c36e : ByteArray := prog_21_method_12_code
def yJ3_checkFromToIndex_8c36e : MethodName := ⟨RJ3, "checkFromToIndex", "(IIILjava/util/function/BiFunction;)I"⟩
abbrev cJ3_checkFromIndexSize_8c36e : ByteArray := prog_21_method_13_code
def yJ3_checkFromIndexSize_8c36e : MethodName := ⟨RJ3, "checkFromIndexSize", "(IIILjava/util/function/BiFunction;)I"⟩
def RL : String := "SightSpacingLaw"
abbrev cL_law : ByteArray := code
def yL_law : MethodName := ⟨RL, "law", "([I)Z"⟩

abbrev vwCl : List vw_C := [(RJ4, TJ4, 4), (RX0, TX0, 4), (RX1, TX1, 4), (RX2, TX2, 3), (RX3, TX3, 7), (RX4, TX4, 12), (RX5, TX5, 6), (RX6, TX6, 10), (RX7, TX7, 19)]
