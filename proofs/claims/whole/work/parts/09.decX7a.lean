theorem dX7_init_0 : decode cX7_init 0 = .ok (.aload_n 0, 1) := by decide +kernel
theorem dX7_init_1 : decode cX7_init 1 = .ok (.invokespecial 1, 3) := by decide +kernel
theorem dX7_init_4 : decode cX7_init 4 = .ok (.aload_n 0, 1) := by decide +kernel
theorem dX7_init_5 : decode cX7_init 5 = .ok (.sipush 3318, 3) := by decide +kernel
theorem dX7_init_8 : decode cX7_init 8 = .ok (.newarray .int, 2) := by decide +kernel
theorem dX7_init_10 : decode cX7_init 10 = .ok (.putfield 7, 3) := by decide +kernel
theorem dX7_init_13 : decode cX7_init 13 = .ok (.aload_n 0, 1) := by decide +kernel
theorem dX7_init_14 : decode cX7_init 14 = .ok (.iconst 2, 1) := by decide +kernel
theorem dX7_init_15 : decode cX7_init 15 = .ok (.newarray .int, 2) := by decide +kernel
theorem dX7_init_17 : decode cX7_init 17 = .ok (.putfield 13, 3) := by decide +kernel
theorem dX7_init_20 : decode cX7_init 20 = .ok (.aload_n 0, 1) := by decide +kernel
theorem dX7_init_21 : decode cX7_init 21 = .ok (.sipush 150, 3) := by decide +kernel
theorem dX7_init_24 : decode cX7_init 24 = .ok (.newarray .int, 2) := by decide +kernel
theorem dX7_init_26 : decode cX7_init 26 = .ok (.putfield 16, 3) := by decide +kernel
theorem dX7_init_29 : decode cX7_init 29 = .ok (.aload_n 0, 1) := by decide +kernel
theorem dX7_init_30 : decode cX7_init 30 = .ok (.iconst (-1), 1) := by decide +kernel
theorem dX7_init_31 : decode cX7_init 31 = .ok (.putfield 19, 3) := by decide +kernel
theorem dX7_init_34 : decode cX7_init 34 = .ok (.aload_n 0, 1) := by decide +kernel
theorem dX7_init_35 : decode cX7_init 35 = .ok (.bipush 20, 2) := by decide +kernel
theorem dX7_init_37 : decode cX7_init 37 = .ok (.newarray .int, 2) := by decide +kernel
theorem dX7_init_39 : decode cX7_init 39 = .ok (.putfield 23, 3) := by decide +kernel
theorem dX7_init_42 : decode cX7_init 42 = .ok (.aload_n 0, 1) := by decide +kernel
theorem dX7_init_43 : decode cX7_init 43 = .ok (.bipush 20, 2) := by decide +kernel
theorem dX7_init_45 : decode cX7_init 45 = .ok (.newarray .int, 2) := by decide +kernel
theorem dX7_init_47 : decode cX7_init 47 = .ok (.putfield 26, 3) := by decide +kernel
theorem dX7_init_50 : decode cX7_init 50 = .ok (.aload_n 0, 1) := by decide +kernel
theorem dX7_init_51 : decode cX7_init 51 = .ok (.bipush 20, 2) := by decide +kernel
theorem dX7_init_53 : decode cX7_init 53 = .ok (.newarray .int, 2) := by decide +kernel
theorem dX7_init_55 : decode cX7_init 55 = .ok (.putfield 29, 3) := by decide +kernel
theorem dX7_init_58 : decode cX7_init 58 = .ok (.aload_n 0, 1) := by decide +kernel
theorem dX7_init_59 : decode cX7_init 59 = .ok (.bipush 16, 2) := by decide +kernel
theorem dX7_init_61 : decode cX7_init 61 = .ok (.newarray .int, 2) := by decide +kernel
theorem dX7_init_63 : decode cX7_init 63 = .ok (.putfield 32, 3) := by decide +kernel
theorem dX7_init_66 : decode cX7_init 66 = .ok (.aload_n 0, 1) := by decide +kernel
theorem dX7_init_67 : decode cX7_init 67 = .ok (.iconst 2, 1) := by decide +kernel
theorem dX7_init_68 : decode cX7_init 68 = .ok (.newarray .int, 2) := by decide +kernel
theorem dX7_init_70 : decode cX7_init 70 = .ok (.putfield 35, 3) := by decide +kernel
theorem dX7_init_73 : decode cX7_init 73 = .ok (.aload_n 0, 1) := by decide +kernel
theorem dX7_init_74 : decode cX7_init 74 = .ok (.bipush 12, 2) := by decide +kernel
theorem dX7_init_76 : decode cX7_init 76 = .ok (.newarray .int, 2) := by decide +kernel
theorem dX7_init_78 : decode cX7_init 78 = .ok (.putfield 38, 3) := by decide +kernel
theorem dX7_init_81 : decode cX7_init 81 = .ok (.aload_n 0, 1) := by decide +kernel
theorem dX7_init_82 : decode cX7_init 82 = .ok (.iconst 5, 1) := by decide +kernel
theorem dX7_init_83 : decode cX7_init 83 = .ok (.newarray .int, 2) := by decide +kernel
theorem dX7_init_85 : decode cX7_init 85 = .ok (.putfield 41, 3) := by decide +kernel
theorem dX7_init_88 : decode cX7_init 88 = .ok (.aload_n 0, 1) := by decide +kernel
theorem dX7_init_89 : decode cX7_init 89 = .ok (.getfield 7, 3) := by decide +kernel
theorem dX7_init_92 : decode cX7_init 92 = .ok (.iconst 1, 1) := by decide +kernel
theorem dX7_init_93 : decode cX7_init 93 = .ok (.iconst 4, 1) := by decide +kernel
theorem dX7_init_94 : decode cX7_init 94 = .ok (.iastore, 1) := by decide +kernel
theorem dX7_init_95 : decode cX7_init 95 = .ok (.aload_n 0, 1) := by decide +kernel
theorem dX7_init_96 : decode cX7_init 96 = .ok (.getfield 7, 3) := by decide +kernel
theorem dX7_init_99 : decode cX7_init 99 = .ok (.iconst 2, 1) := by decide +kernel
theorem dX7_init_100 : decode cX7_init 100 = .ok (.iconst 2, 1) := by decide +kernel
theorem dX7_init_101 : decode cX7_init 101 = .ok (.iastore, 1) := by decide +kernel
theorem dX7_init_102 : decode cX7_init 102 = .ok (.aload_n 0, 1) := by decide +kernel
theorem dX7_init_103 : decode cX7_init 103 = .ok (.getfield 7, 3) := by decide +kernel
theorem dX7_init_106 : decode cX7_init 106 = .ok (.iconst 3, 1) := by decide +kernel
theorem dX7_init_107 : decode cX7_init 107 = .ok (.bipush 9, 2) := by decide +kernel
theorem dX7_init_109 : decode cX7_init 109 = .ok (.iastore, 1) := by decide +kernel
theorem dX7_init_110 : decode cX7_init 110 = .ok (.aload_n 0, 1) := by decide +kernel
theorem dX7_init_111 : decode cX7_init 111 = .ok (.getfield 7, 3) := by decide +kernel
theorem dX7_init_114 : decode cX7_init 114 = .ok (.iconst 4, 1) := by decide +kernel
theorem dX7_init_115 : decode cX7_init 115 = .ok (.bipush 30, 2) := by decide +kernel
theorem dX7_init_117 : decode cX7_init 117 = .ok (.iastore, 1) := by decide +kernel
theorem dX7_init_118 : decode cX7_init 118 = .ok (.return_, 1) := by decide +kernel
theorem dX7_in_0 : decode cX7_in 0 = .ok (.lload_n 0, 1) := by decide +kernel
theorem dX7_in_1 : decode cX7_in 1 = .ok (.lload_n 2, 1) := by decide +kernel
theorem dX7_in_2 : decode cX7_in 2 = .ok (.lcmp, 1) := by decide +kernel
theorem dX7_in_3 : decode cX7_in 3 = .ok (.ifCond .lt 14, 3) := by decide +kernel
theorem dX7_in_6 : decode cX7_in 6 = .ok (.lload_n 0, 1) := by decide +kernel
theorem dX7_in_7 : decode cX7_in 7 = .ok (.lload 4, 2) := by decide +kernel
theorem dX7_in_9 : decode cX7_in 9 = .ok (.lcmp, 1) := by decide +kernel
theorem dX7_in_10 : decode cX7_in 10 = .ok (.ifCond .gt 7, 3) := by decide +kernel
theorem dX7_in_13 : decode cX7_in 13 = .ok (.iconst 1, 1) := by decide +kernel
theorem dX7_in_14 : decode cX7_in 14 = .ok (.goto 4, 3) := by decide +kernel
theorem dX7_in_17 : decode cX7_in 17 = .ok (.iconst 0, 1) := by decide +kernel
theorem dX7_in_18 : decode cX7_in 18 = .ok (.ireturn, 1) := by decide +kernel
theorem dX7_has_0 : decode cX7_has 0 = .ok (.iload_n 0, 1) := by decide +kernel
theorem dX7_has_1 : decode cX7_has 1 = .ok (.iload_n 1, 1) := by decide +kernel
theorem dX7_has_2 : decode cX7_has 2 = .ok (.ishr, 1) := by decide +kernel
theorem dX7_has_3 : decode cX7_has 3 = .ok (.iconst 1, 1) := by decide +kernel
theorem dX7_has_4 : decode cX7_has 4 = .ok (.iand, 1) := by decide +kernel
theorem dX7_has_5 : decode cX7_has 5 = .ok (.iconst 1, 1) := by decide +kernel
theorem dX7_has_6 : decode cX7_has 6 = .ok (.if_icmp .ne 7, 3) := by decide +kernel
theorem dX7_has_9 : decode cX7_has 9 = .ok (.iconst 1, 1) := by decide +kernel
theorem dX7_has_10 : decode cX7_has 10 = .ok (.goto 4, 3) := by decide +kernel
theorem dX7_has_13 : decode cX7_has 13 = .ok (.iconst 0, 1) := by decide +kernel
theorem dX7_has_14 : decode cX7_has 14 = .ok (.ireturn, 1) := by decide +kernel
theorem dX7_copyRow_0 : decode cX7_copyRow 0 = .ok (.iconst 0, 1) := by decide +kernel
theorem dX7_copyRow_1 : decode cX7_copyRow 1 = .ok (.istore_n 3, 1) := by decide +kernel
theorem dX7_copyRow_2 : decode cX7_copyRow 2 = .ok (.iload_n 3, 1) := by decide +kernel
theorem dX7_copyRow_3 : decode cX7_copyRow 3 = .ok (.sipush 158, 3) := by decide +kernel
theorem dX7_copyRow_6 : decode cX7_copyRow 6 = .ok (.if_icmp .ge 33, 3) := by decide +kernel
theorem dX7_copyRow_9 : decode cX7_copyRow 9 = .ok (.aload_n 0, 1) := by decide +kernel
theorem dX7_copyRow_10 : decode cX7_copyRow 10 = .ok (.getfield 7, 3) := by decide +kernel
theorem dX7_copyRow_13 : decode cX7_copyRow 13 = .ok (.sipush 158, 3) := by decide +kernel
theorem dX7_copyRow_16 : decode cX7_copyRow 16 = .ok (.iload_n 2, 1) := by decide +kernel
theorem dX7_copyRow_17 : decode cX7_copyRow 17 = .ok (.imul, 1) := by decide +kernel
theorem dX7_copyRow_18 : decode cX7_copyRow 18 = .ok (.iload_n 3, 1) := by decide +kernel
theorem dX7_copyRow_19 : decode cX7_copyRow 19 = .ok (.iadd, 1) := by decide +kernel
theorem dX7_copyRow_20 : decode cX7_copyRow 20 = .ok (.aload_n 0, 1) := by decide +kernel
theorem dX7_copyRow_21 : decode cX7_copyRow 21 = .ok (.getfield 7, 3) := by decide +kernel
theorem dX7_copyRow_24 : decode cX7_copyRow 24 = .ok (.sipush 158, 3) := by decide +kernel
theorem dX7_copyRow_27 : decode cX7_copyRow 27 = .ok (.iload_n 1, 1) := by decide +kernel
theorem dX7_copyRow_28 : decode cX7_copyRow 28 = .ok (.imul, 1) := by decide +kernel
theorem dX7_copyRow_29 : decode cX7_copyRow 29 = .ok (.iload_n 3, 1) := by decide +kernel
theorem dX7_copyRow_30 : decode cX7_copyRow 30 = .ok (.iadd, 1) := by decide +kernel
theorem dX7_copyRow_31 : decode cX7_copyRow 31 = .ok (.iaload, 1) := by decide +kernel
theorem dX7_copyRow_32 : decode cX7_copyRow 32 = .ok (.iastore, 1) := by decide +kernel
theorem dX7_copyRow_33 : decode cX7_copyRow 33 = .ok (.iinc 3 1, 3) := by decide +kernel
theorem dX7_copyRow_36 : decode cX7_copyRow 36 = .ok (.goto (-34), 3) := by decide +kernel
theorem dX7_copyRow_39 : decode cX7_copyRow 39 = .ok (.return_, 1) := by decide +kernel
theorem dX7_remember_0 : decode cX7_remember 0 = .ok (.bipush 16, 2) := by decide +kernel
theorem dX7_remember_2 : decode cX7_remember 2 = .ok (.istore_n 1, 1) := by decide +kernel
theorem dX7_remember_3 : decode cX7_remember 3 = .ok (.iload_n 1, 1) := by decide +kernel
theorem dX7_remember_4 : decode cX7_remember 4 = .ok (.ifCond .le 17, 3) := by decide +kernel
theorem dX7_remember_7 : decode cX7_remember 7 = .ok (.aload_n 0, 1) := by decide +kernel
theorem dX7_remember_8 : decode cX7_remember 8 = .ok (.iload_n 1, 1) := by decide +kernel
theorem dX7_remember_9 : decode cX7_remember 9 = .ok (.iconst 1, 1) := by decide +kernel
theorem dX7_remember_10 : decode cX7_remember 10 = .ok (.isub, 1) := by decide +kernel
theorem dX7_remember_11 : decode cX7_remember 11 = .ok (.iload_n 1, 1) := by decide +kernel
theorem dX7_remember_12 : decode cX7_remember 12 = .ok (.invokevirtual 44, 3) := by decide +kernel
theorem dX7_remember_15 : decode cX7_remember 15 = .ok (.iinc 1 (-1), 3) := by decide +kernel
theorem dX7_remember_18 : decode cX7_remember 18 = .ok (.goto (-15), 3) := by decide +kernel
theorem dX7_remember_21 : decode cX7_remember 21 = .ok (.aload_n 0, 1) := by decide +kernel
theorem dX7_remember_22 : decode cX7_remember 22 = .ok (.aload_n 0, 1) := by decide +kernel
theorem dX7_remember_23 : decode cX7_remember 23 = .ok (.getfield 48, 3) := by decide +kernel
theorem dX7_remember_26 : decode cX7_remember 26 = .ok (.bipush 16, 2) := by decide +kernel
theorem dX7_remember_28 : decode cX7_remember 28 = .ok (.if_icmp .ge 12, 3) := by decide +kernel
theorem dX7_remember_31 : decode cX7_remember 31 = .ok (.aload_n 0, 1) := by decide +kernel
theorem dX7_remember_32 : decode cX7_remember 32 = .ok (.getfield 48, 3) := by decide +kernel
theorem dX7_remember_35 : decode cX7_remember 35 = .ok (.iconst 1, 1) := by decide +kernel
theorem dX7_remember_36 : decode cX7_remember 36 = .ok (.iadd, 1) := by decide +kernel
theorem dX7_remember_37 : decode cX7_remember 37 = .ok (.goto 5, 3) := by decide +kernel
theorem dX7_remember_40 : decode cX7_remember 40 = .ok (.bipush 16, 2) := by decide +kernel
theorem dX7_remember_42 : decode cX7_remember 42 = .ok (.putfield 48, 3) := by decide +kernel
theorem dX7_remember_45 : decode cX7_remember 45 = .ok (.return_, 1) := by decide +kernel
theorem dX7_termOf_0 : decode cX7_termOf 0 = .ok (.aload_n 0, 1) := by decide +kernel
theorem dX7_termOf_1 : decode cX7_termOf 1 = .ok (.getfield 7, 3) := by decide +kernel
theorem dX7_termOf_4 : decode cX7_termOf 4 = .ok (.iconst 1, 1) := by decide +kernel
theorem dX7_termOf_5 : decode cX7_termOf 5 = .ok (.iload_n 1, 1) := by decide +kernel
theorem dX7_termOf_6 : decode cX7_termOf 6 = .ok (.iadd, 1) := by decide +kernel
theorem dX7_termOf_7 : decode cX7_termOf 7 = .ok (.iaload, 1) := by decide +kernel
theorem dX7_termOf_8 : decode cX7_termOf 8 = .ok (.ireturn, 1) := by decide +kernel
theorem dX7_isKnown_0 : decode cX7_isKnown 0 = .ok (.iload_n 1, 1) := by decide +kernel
theorem dX7_isKnown_1 : decode cX7_isKnown 1 = .ok (.i2l, 1) := by decide +kernel
theorem dX7_isKnown_2 : decode cX7_isKnown 2 = .ok (.lconst 0, 1) := by decide +kernel
theorem dX7_isKnown_3 : decode cX7_isKnown 3 = .ok (.ldc2_w 51, 3) := by decide +kernel
theorem dX7_isKnown_6 : decode cX7_isKnown 6 = .ok (.invokestatic 53, 3) := by decide +kernel
theorem dX7_isKnown_9 : decode cX7_isKnown 9 = .ok (.ifCond .eq 20, 3) := by decide +kernel
theorem dX7_isKnown_12 : decode cX7_isKnown 12 = .ok (.aload_n 0, 1) := by decide +kernel
theorem dX7_isKnown_13 : decode cX7_isKnown 13 = .ok (.getfield 7, 3) := by decide +kernel
theorem dX7_isKnown_16 : decode cX7_isKnown 16 = .ok (.iconst 0, 1) := by decide +kernel
theorem dX7_isKnown_17 : decode cX7_isKnown 17 = .ok (.iaload, 1) := by decide +kernel
theorem dX7_isKnown_18 : decode cX7_isKnown 18 = .ok (.iload_n 1, 1) := by decide +kernel
theorem dX7_isKnown_19 : decode cX7_isKnown 19 = .ok (.invokestatic 57, 3) := by decide +kernel
theorem dX7_isKnown_22 : decode cX7_isKnown 22 = .ok (.ifCond .eq 7, 3) := by decide +kernel
theorem dX7_isKnown_25 : decode cX7_isKnown 25 = .ok (.iconst 1, 1) := by decide +kernel
theorem dX7_isKnown_26 : decode cX7_isKnown 26 = .ok (.goto 4, 3) := by decide +kernel
theorem dX7_isKnown_29 : decode cX7_isKnown 29 = .ok (.iconst 0, 1) := by decide +kernel
theorem dX7_isKnown_30 : decode cX7_isKnown 30 = .ok (.ireturn, 1) := by decide +kernel
theorem dX7_edgeOf_0 : decode cX7_edgeOf 0 = .ok (.aload_n 0, 1) := by decide +kernel
theorem dX7_edgeOf_1 : decode cX7_edgeOf 1 = .ok (.getfield 7, 3) := by decide +kernel
theorem dX7_edgeOf_4 : decode cX7_edgeOf 4 = .ok (.bipush 6, 2) := by decide +kernel
theorem dX7_edgeOf_6 : decode cX7_edgeOf 6 = .ok (.bipush 40, 2) := by decide +kernel
theorem dX7_edgeOf_8 : decode cX7_edgeOf 8 = .ok (.iload_n 2, 1) := by decide +kernel
theorem dX7_edgeOf_9 : decode cX7_edgeOf 9 = .ok (.imul, 1) := by decide +kernel
theorem dX7_edgeOf_10 : decode cX7_edgeOf 10 = .ok (.iadd, 1) := by decide +kernel
theorem dX7_edgeOf_11 : decode cX7_edgeOf 11 = .ok (.iconst 5, 1) := by decide +kernel
theorem dX7_edgeOf_12 : decode cX7_edgeOf 12 = .ok (.iload_n 1, 1) := by decide +kernel
theorem dX7_edgeOf_13 : decode cX7_edgeOf 13 = .ok (.imul, 1) := by decide +kernel
theorem dX7_edgeOf_14 : decode cX7_edgeOf 14 = .ok (.iadd, 1) := by decide +kernel
theorem dX7_edgeOf_15 : decode cX7_edgeOf 15 = .ok (.iload_n 3, 1) := by decide +kernel
theorem dX7_edgeOf_16 : decode cX7_edgeOf 16 = .ok (.iadd, 1) := by decide +kernel
theorem dX7_edgeOf_17 : decode cX7_edgeOf 17 = .ok (.iaload, 1) := by decide +kernel
theorem dX7_edgeOf_18 : decode cX7_edgeOf 18 = .ok (.ireturn, 1) := by decide +kernel
theorem dX7_judgedOf_0 : decode cX7_judgedOf 0 = .ok (.aload_n 0, 1) := by decide +kernel
theorem dX7_judgedOf_1 : decode cX7_judgedOf 1 = .ok (.getfield 7, 3) := by decide +kernel
theorem dX7_judgedOf_4 : decode cX7_judgedOf 4 = .ok (.bipush 94, 2) := by decide +kernel
theorem dX7_judgedOf_6 : decode cX7_judgedOf 6 = .ok (.bipush 8, 2) := by decide +kernel
theorem dX7_judgedOf_8 : decode cX7_judgedOf 8 = .ok (.iload_n 1, 1) := by decide +kernel
theorem dX7_judgedOf_9 : decode cX7_judgedOf 9 = .ok (.imul, 1) := by decide +kernel
theorem dX7_judgedOf_10 : decode cX7_judgedOf 10 = .ok (.iadd, 1) := by decide +kernel
theorem dX7_judgedOf_11 : decode cX7_judgedOf 11 = .ok (.iload_n 2, 1) := by decide +kernel
theorem dX7_judgedOf_12 : decode cX7_judgedOf 12 = .ok (.iadd, 1) := by decide +kernel
theorem dX7_judgedOf_13 : decode cX7_judgedOf 13 = .ok (.iaload, 1) := by decide +kernel
theorem dX7_judgedOf_14 : decode cX7_judgedOf 14 = .ok (.ireturn, 1) := by decide +kernel
theorem dX7_farOf_0 : decode cX7_farOf 0 = .ok (.iconst 0, 1) := by decide +kernel
theorem dX7_farOf_1 : decode cX7_farOf 1 = .ok (.istore 4, 2) := by decide +kernel
theorem dX7_farOf_3 : decode cX7_farOf 3 = .ok (.iconst 0, 1) := by decide +kernel
theorem dX7_farOf_4 : decode cX7_farOf 4 = .ok (.istore 5, 2) := by decide +kernel
theorem dX7_farOf_6 : decode cX7_farOf 6 = .ok (.iconst 0, 1) := by decide +kernel
theorem dX7_farOf_7 : decode cX7_farOf 7 = .ok (.istore 6, 2) := by decide +kernel
theorem dX7_farOf_9 : decode cX7_farOf 9 = .ok (.iconst 0, 1) := by decide +kernel
theorem dX7_farOf_10 : decode cX7_farOf 10 = .ok (.istore 7, 2) := by decide +kernel
theorem dX7_farOf_12 : decode cX7_farOf 12 = .ok (.iload 7, 2) := by decide +kernel
theorem dX7_farOf_14 : decode cX7_farOf 14 = .ok (.iconst 5, 1) := by decide +kernel
theorem dX7_farOf_15 : decode cX7_farOf 15 = .ok (.if_icmp .ge 76, 3) := by decide +kernel
theorem dX7_farOf_18 : decode cX7_farOf 18 = .ok (.aload_n 0, 1) := by decide +kernel
theorem dX7_farOf_19 : decode cX7_farOf 19 = .ok (.iload_n 1, 1) := by decide +kernel
theorem dX7_farOf_20 : decode cX7_farOf 20 = .ok (.iload_n 3, 1) := by decide +kernel
theorem dX7_farOf_21 : decode cX7_farOf 21 = .ok (.iload 7, 2) := by decide +kernel
theorem dX7_farOf_23 : decode cX7_farOf 23 = .ok (.invokevirtual 61, 3) := by decide +kernel
theorem dX7_farOf_26 : decode cX7_farOf 26 = .ok (.aload_n 0, 1) := by decide +kernel
theorem dX7_farOf_27 : decode cX7_farOf 27 = .ok (.iload_n 2, 1) := by decide +kernel
theorem dX7_farOf_28 : decode cX7_farOf 28 = .ok (.iload_n 3, 1) := by decide +kernel
theorem dX7_farOf_29 : decode cX7_farOf 29 = .ok (.iload 7, 2) := by decide +kernel
theorem dX7_farOf_31 : decode cX7_farOf 31 = .ok (.invokevirtual 61, 3) := by decide +kernel
theorem dX7_farOf_34 : decode cX7_farOf 34 = .ok (.isub, 1) := by decide +kernel
theorem dX7_farOf_35 : decode cX7_farOf 35 = .ok (.istore 8, 2) := by decide +kernel
theorem dX7_farOf_37 : decode cX7_farOf 37 = .ok (.iload 8, 2) := by decide +kernel
theorem dX7_farOf_39 : decode cX7_farOf 39 = .ok (.ifCond .ge 9, 3) := by decide +kernel
theorem dX7_farOf_42 : decode cX7_farOf 42 = .ok (.iload 8, 2) := by decide +kernel
theorem dX7_farOf_44 : decode cX7_farOf 44 = .ok (.ineg, 1) := by decide +kernel
theorem dX7_farOf_45 : decode cX7_farOf 45 = .ok (.goto 5, 3) := by decide +kernel
theorem dX7_farOf_48 : decode cX7_farOf 48 = .ok (.iload 8, 2) := by decide +kernel
theorem dX7_farOf_50 : decode cX7_farOf 50 = .ok (.istore 8, 2) := by decide +kernel
theorem dX7_farOf_52 : decode cX7_farOf 52 = .ok (.iload 4, 2) := by decide +kernel
theorem dX7_farOf_54 : decode cX7_farOf 54 = .ok (.iload 8, 2) := by decide +kernel
theorem dX7_farOf_56 : decode cX7_farOf 56 = .ok (.iadd, 1) := by decide +kernel
theorem dX7_farOf_57 : decode cX7_farOf 57 = .ok (.istore 4, 2) := by decide +kernel
theorem dX7_farOf_59 : decode cX7_farOf 59 = .ok (.iload 8, 2) := by decide +kernel
theorem dX7_farOf_61 : decode cX7_farOf 61 = .ok (.iload 5, 2) := by decide +kernel
theorem dX7_farOf_63 : decode cX7_farOf 63 = .ok (.if_icmp .le 8, 3) := by decide +kernel
theorem dX7_farOf_66 : decode cX7_farOf 66 = .ok (.iload 8, 2) := by decide +kernel
theorem dX7_farOf_68 : decode cX7_farOf 68 = .ok (.goto 5, 3) := by decide +kernel
theorem dX7_farOf_71 : decode cX7_farOf 71 = .ok (.iload 5, 2) := by decide +kernel
theorem dX7_farOf_73 : decode cX7_farOf 73 = .ok (.istore 5, 2) := by decide +kernel
theorem dX7_farOf_75 : decode cX7_farOf 75 = .ok (.iload 6, 2) := by decide +kernel
theorem dX7_farOf_77 : decode cX7_farOf 77 = .ok (.iload 8, 2) := by decide +kernel
theorem dX7_farOf_79 : decode cX7_farOf 79 = .ok (.iload 8, 2) := by decide +kernel
theorem dX7_farOf_81 : decode cX7_farOf 81 = .ok (.imul, 1) := by decide +kernel
theorem dX7_farOf_82 : decode cX7_farOf 82 = .ok (.iadd, 1) := by decide +kernel
theorem dX7_farOf_83 : decode cX7_farOf 83 = .ok (.istore 6, 2) := by decide +kernel
theorem dX7_farOf_85 : decode cX7_farOf 85 = .ok (.iinc 7 1, 3) := by decide +kernel
theorem dX7_farOf_88 : decode cX7_farOf 88 = .ok (.goto (-76), 3) := by decide +kernel
theorem dX7_farOf_91 : decode cX7_farOf 91 = .ok (.aload_n 0, 1) := by decide +kernel
theorem dX7_farOf_92 : decode cX7_farOf 92 = .ok (.iconst 4, 1) := by decide +kernel
theorem dX7_farOf_93 : decode cX7_farOf 93 = .ok (.invokevirtual 65, 3) := by decide +kernel
theorem dX7_farOf_96 : decode cX7_farOf 96 = .ok (.ifCond .ne 8, 3) := by decide +kernel
theorem dX7_farOf_99 : decode cX7_farOf 99 = .ok (.iload 4, 2) := by decide +kernel
theorem dX7_farOf_101 : decode cX7_farOf 101 = .ok (.goto 19, 3) := by decide +kernel
theorem dX7_farOf_104 : decode cX7_farOf 104 = .ok (.aload_n 0, 1) := by decide +kernel
theorem dX7_farOf_105 : decode cX7_farOf 105 = .ok (.iconst 4, 1) := by decide +kernel
theorem dX7_farOf_106 : decode cX7_farOf 106 = .ok (.invokevirtual 65, 3) := by decide +kernel
theorem dX7_farOf_109 : decode cX7_farOf 109 = .ok (.iconst 1, 1) := by decide +kernel
theorem dX7_farOf_110 : decode cX7_farOf 110 = .ok (.if_icmp .ne 8, 3) := by decide +kernel
theorem dX7_farOf_113 : decode cX7_farOf 113 = .ok (.iload 5, 2) := by decide +kernel
theorem dX7_farOf_115 : decode cX7_farOf 115 = .ok (.goto 5, 3) := by decide +kernel
theorem dX7_farOf_118 : decode cX7_farOf 118 = .ok (.iload 6, 2) := by decide +kernel
theorem dX7_farOf_120 : decode cX7_farOf 120 = .ok (.ireturn, 1) := by decide +kernel
theorem dX7_fits_0 : decode cX7_fits 0 = .ok (.iconst 1, 1) := by decide +kernel
theorem dX7_fits_1 : decode cX7_fits 1 = .ok (.istore 4, 2) := by decide +kernel
theorem dX7_fits_3 : decode cX7_fits 3 = .ok (.iconst 0, 1) := by decide +kernel
theorem dX7_fits_4 : decode cX7_fits 4 = .ok (.istore 5, 2) := by decide +kernel
theorem dX7_fits_6 : decode cX7_fits 6 = .ok (.iload 5, 2) := by decide +kernel
theorem dX7_fits_8 : decode cX7_fits 8 = .ok (.iload_n 1, 1) := by decide +kernel
theorem dX7_fits_9 : decode cX7_fits 9 = .ok (.if_icmp .ge 62, 3) := by decide +kernel
theorem dX7_fits_12 : decode cX7_fits 12 = .ok (.iload 4, 2) := by decide +kernel
theorem dX7_fits_14 : decode cX7_fits 14 = .ok (.ifCond .eq 48, 3) := by decide +kernel
theorem dX7_fits_17 : decode cX7_fits 17 = .ok (.aload_n 0, 1) := by decide +kernel
theorem dX7_fits_18 : decode cX7_fits 18 = .ok (.iload 5, 2) := by decide +kernel
theorem dX7_fits_20 : decode cX7_fits 20 = .ok (.invokevirtual 69, 3) := by decide +kernel
theorem dX7_fits_23 : decode cX7_fits 23 = .ok (.ifCond .eq 35, 3) := by decide +kernel
theorem dX7_fits_26 : decode cX7_fits 26 = .ok (.aload_n 0, 1) := by decide +kernel
theorem dX7_fits_27 : decode cX7_fits 27 = .ok (.getfield 32, 3) := by decide +kernel
theorem dX7_fits_30 : decode cX7_fits 30 = .ok (.bipush 8, 2) := by decide +kernel
theorem dX7_fits_32 : decode cX7_fits 32 = .ok (.iload_n 2, 1) := by decide +kernel
theorem dX7_fits_33 : decode cX7_fits 33 = .ok (.imul, 1) := by decide +kernel
theorem dX7_fits_34 : decode cX7_fits 34 = .ok (.iload 5, 2) := by decide +kernel
theorem dX7_fits_36 : decode cX7_fits 36 = .ok (.iadd, 1) := by decide +kernel
theorem dX7_fits_37 : decode cX7_fits 37 = .ok (.iaload, 1) := by decide +kernel
theorem dX7_fits_38 : decode cX7_fits 38 = .ok (.iload_n 3, 1) := by decide +kernel
theorem dX7_fits_39 : decode cX7_fits 39 = .ok (.if_icmp .ne 19, 3) := by decide +kernel
theorem dX7_fits_42 : decode cX7_fits 42 = .ok (.aload_n 0, 1) := by decide +kernel
theorem dX7_fits_43 : decode cX7_fits 43 = .ok (.iload_n 1, 1) := by decide +kernel
theorem dX7_fits_44 : decode cX7_fits 44 = .ok (.iload 5, 2) := by decide +kernel
theorem dX7_fits_46 : decode cX7_fits 46 = .ok (.iload_n 2, 1) := by decide +kernel
theorem dX7_fits_47 : decode cX7_fits 47 = .ok (.invokevirtual 73, 3) := by decide +kernel
theorem dX7_fits_50 : decode cX7_fits 50 = .ok (.aload_n 0, 1) := by decide +kernel
theorem dX7_fits_51 : decode cX7_fits 51 = .ok (.iconst 0, 1) := by decide +kernel
theorem dX7_fits_52 : decode cX7_fits 52 = .ok (.invokevirtual 65, 3) := by decide +kernel
theorem dX7_fits_55 : decode cX7_fits 55 = .ok (.if_icmp .gt 7, 3) := by decide +kernel
theorem dX7_fits_58 : decode cX7_fits 58 = .ok (.iconst 1, 1) := by decide +kernel
theorem dX7_fits_59 : decode cX7_fits 59 = .ok (.goto 4, 3) := by decide +kernel
theorem dX7_fits_62 : decode cX7_fits 62 = .ok (.iconst 0, 1) := by decide +kernel
theorem dX7_fits_63 : decode cX7_fits 63 = .ok (.istore 4, 2) := by decide +kernel
theorem dX7_fits_65 : decode cX7_fits 65 = .ok (.iinc 5 1, 3) := by decide +kernel
theorem dX7_fits_68 : decode cX7_fits 68 = .ok (.goto (-62), 3) := by decide +kernel
theorem dX7_fits_71 : decode cX7_fits 71 = .ok (.iload 4, 2) := by decide +kernel
theorem dX7_fits_73 : decode cX7_fits 73 = .ok (.ireturn, 1) := by decide +kernel
theorem dX7_usedAhead_0 : decode cX7_usedAhead 0 = .ok (.iconst 0, 1) := by decide +kernel
theorem dX7_usedAhead_1 : decode cX7_usedAhead 1 = .ok (.istore_n 3, 1) := by decide +kernel
theorem dX7_usedAhead_2 : decode cX7_usedAhead 2 = .ok (.iconst 0, 1) := by decide +kernel
theorem dX7_usedAhead_3 : decode cX7_usedAhead 3 = .ok (.istore 4, 2) := by decide +kernel
theorem dX7_usedAhead_5 : decode cX7_usedAhead 5 = .ok (.iload 4, 2) := by decide +kernel
theorem dX7_usedAhead_7 : decode cX7_usedAhead 7 = .ok (.iload_n 1, 1) := by decide +kernel
theorem dX7_usedAhead_8 : decode cX7_usedAhead 8 = .ok (.if_icmp .ge 53, 3) := by decide +kernel
theorem dX7_usedAhead_11 : decode cX7_usedAhead 11 = .ok (.aload_n 0, 1) := by decide +kernel
theorem dX7_usedAhead_12 : decode cX7_usedAhead 12 = .ok (.iload 4, 2) := by decide +kernel
theorem dX7_usedAhead_14 : decode cX7_usedAhead 14 = .ok (.invokevirtual 69, 3) := by decide +kernel
theorem dX7_usedAhead_17 : decode cX7_usedAhead 17 = .ok (.ifCond .eq 36, 3) := by decide +kernel
theorem dX7_usedAhead_20 : decode cX7_usedAhead 20 = .ok (.aload_n 0, 1) := by decide +kernel
theorem dX7_usedAhead_21 : decode cX7_usedAhead 21 = .ok (.getfield 32, 3) := by decide +kernel
theorem dX7_usedAhead_24 : decode cX7_usedAhead 24 = .ok (.bipush 8, 2) := by decide +kernel
theorem dX7_usedAhead_26 : decode cX7_usedAhead 26 = .ok (.iload_n 2, 1) := by decide +kernel
theorem dX7_usedAhead_27 : decode cX7_usedAhead 27 = .ok (.imul, 1) := by decide +kernel
theorem dX7_usedAhead_28 : decode cX7_usedAhead 28 = .ok (.iload 4, 2) := by decide +kernel
theorem dX7_usedAhead_30 : decode cX7_usedAhead 30 = .ok (.iadd, 1) := by decide +kernel
theorem dX7_usedAhead_31 : decode cX7_usedAhead 31 = .ok (.iaload, 1) := by decide +kernel
theorem dX7_usedAhead_32 : decode cX7_usedAhead 32 = .ok (.iload_n 3, 1) := by decide +kernel
theorem dX7_usedAhead_33 : decode cX7_usedAhead 33 = .ok (.if_icmp .lt 20, 3) := by decide +kernel
theorem dX7_usedAhead_36 : decode cX7_usedAhead 36 = .ok (.aload_n 0, 1) := by decide +kernel
theorem dX7_usedAhead_37 : decode cX7_usedAhead 37 = .ok (.getfield 32, 3) := by decide +kernel
theorem dX7_usedAhead_40 : decode cX7_usedAhead 40 = .ok (.bipush 8, 2) := by decide +kernel
theorem dX7_usedAhead_42 : decode cX7_usedAhead 42 = .ok (.iload_n 2, 1) := by decide +kernel
theorem dX7_usedAhead_43 : decode cX7_usedAhead 43 = .ok (.imul, 1) := by decide +kernel
theorem dX7_usedAhead_44 : decode cX7_usedAhead 44 = .ok (.iload 4, 2) := by decide +kernel
theorem dX7_usedAhead_46 : decode cX7_usedAhead 46 = .ok (.iadd, 1) := by decide +kernel
theorem dX7_usedAhead_47 : decode cX7_usedAhead 47 = .ok (.iaload, 1) := by decide +kernel
theorem dX7_usedAhead_48 : decode cX7_usedAhead 48 = .ok (.iconst 1, 1) := by decide +kernel
theorem dX7_usedAhead_49 : decode cX7_usedAhead 49 = .ok (.iadd, 1) := by decide +kernel
theorem dX7_usedAhead_50 : decode cX7_usedAhead 50 = .ok (.goto 4, 3) := by decide +kernel
theorem dX7_usedAhead_53 : decode cX7_usedAhead 53 = .ok (.iload_n 3, 1) := by decide +kernel
theorem dX7_usedAhead_54 : decode cX7_usedAhead 54 = .ok (.istore_n 3, 1) := by decide +kernel
theorem dX7_usedAhead_55 : decode cX7_usedAhead 55 = .ok (.iinc 4 1, 3) := by decide +kernel
theorem dX7_usedAhead_58 : decode cX7_usedAhead 58 = .ok (.goto (-53), 3) := by decide +kernel
theorem dX7_usedAhead_61 : decode cX7_usedAhead 61 = .ok (.iload_n 3, 1) := by decide +kernel
theorem dX7_usedAhead_62 : decode cX7_usedAhead 62 = .ok (.ireturn, 1) := by decide +kernel
theorem dX7_nextNumber_0 : decode cX7_nextNumber 0 = .ok (.aload_n 0, 1) := by decide +kernel
theorem dX7_nextNumber_1 : decode cX7_nextNumber 1 = .ok (.iload_n 1, 1) := by decide +kernel
theorem dX7_nextNumber_2 : decode cX7_nextNumber 2 = .ok (.iload_n 2, 1) := by decide +kernel
theorem dX7_nextNumber_3 : decode cX7_nextNumber 3 = .ok (.invokevirtual 76, 3) := by decide +kernel
theorem dX7_nextNumber_6 : decode cX7_nextNumber 6 = .ok (.istore 5, 2) := by decide +kernel
theorem dX7_nextNumber_8 : decode cX7_nextNumber 8 = .ok (.iload_n 3, 1) := by decide +kernel
theorem dX7_nextNumber_9 : decode cX7_nextNumber 9 = .ok (.istore 6, 2) := by decide +kernel
theorem dX7_nextNumber_11 : decode cX7_nextNumber 11 = .ok (.iload 6, 2) := by decide +kernel
theorem dX7_nextNumber_13 : decode cX7_nextNumber 13 = .ok (.iload 5, 2) := by decide +kernel
theorem dX7_nextNumber_15 : decode cX7_nextNumber 15 = .ok (.if_icmp .gt 30, 3) := by decide +kernel
theorem dX7_nextNumber_18 : decode cX7_nextNumber 18 = .ok (.iload 6, 2) := by decide +kernel
theorem dX7_nextNumber_20 : decode cX7_nextNumber 20 = .ok (.iload 4, 2) := by decide +kernel
theorem dX7_nextNumber_22 : decode cX7_nextNumber 22 = .ok (.if_icmp .ge 23, 3) := by decide +kernel
theorem dX7_nextNumber_25 : decode cX7_nextNumber 25 = .ok (.aload_n 0, 1) := by decide +kernel
theorem dX7_nextNumber_26 : decode cX7_nextNumber 26 = .ok (.iload_n 1, 1) := by decide +kernel
theorem dX7_nextNumber_27 : decode cX7_nextNumber 27 = .ok (.iload_n 2, 1) := by decide +kernel
theorem dX7_nextNumber_28 : decode cX7_nextNumber 28 = .ok (.iload 6, 2) := by decide +kernel
theorem dX7_nextNumber_30 : decode cX7_nextNumber 30 = .ok (.invokevirtual 80, 3) := by decide +kernel
theorem dX7_nextNumber_33 : decode cX7_nextNumber 33 = .ok (.ifCond .eq 6, 3) := by decide +kernel
theorem dX7_nextNumber_36 : decode cX7_nextNumber 36 = .ok (.iload 6, 2) := by decide +kernel
theorem dX7_nextNumber_38 : decode cX7_nextNumber 38 = .ok (.ireturn, 1) := by decide +kernel
theorem dX7_nextNumber_39 : decode cX7_nextNumber 39 = .ok (.iinc 6 1, 3) := by decide +kernel
theorem dX7_nextNumber_42 : decode cX7_nextNumber 42 = .ok (.goto (-31), 3) := by decide +kernel
theorem dX7_nextNumber_45 : decode cX7_nextNumber 45 = .ok (.iconst (-1), 1) := by decide +kernel
theorem dX7_nextNumber_46 : decode cX7_nextNumber 46 = .ok (.ireturn, 1) := by decide +kernel
theorem dX7_parts_0 : decode cX7_parts 0 = .ok (.iconst 0, 1) := by decide +kernel
theorem dX7_parts_1 : decode cX7_parts 1 = .ok (.istore_n 3, 1) := by decide +kernel
theorem dX7_parts_2 : decode cX7_parts 2 = .ok (.iconst 0, 1) := by decide +kernel
theorem dX7_parts_3 : decode cX7_parts 3 = .ok (.istore 4, 2) := by decide +kernel
theorem dX7_parts_5 : decode cX7_parts 5 = .ok (.iload_n 3, 1) := by decide +kernel
theorem dX7_parts_6 : decode cX7_parts 6 = .ok (.ifCond .lt 101, 3) := by decide +kernel
theorem dX7_parts_9 : decode cX7_parts 9 = .ok (.iload_n 3, 1) := by decide +kernel
theorem dX7_parts_10 : decode cX7_parts 10 = .ok (.bipush 8, 2) := by decide +kernel
theorem dX7_parts_12 : decode cX7_parts 12 = .ok (.if_icmp .ge 95, 3) := by decide +kernel
theorem dX7_parts_15 : decode cX7_parts 15 = .ok (.bipush 8, 2) := by decide +kernel
theorem dX7_parts_17 : decode cX7_parts 17 = .ok (.iload_n 1, 1) := by decide +kernel
theorem dX7_parts_18 : decode cX7_parts 18 = .ok (.imul, 1) := by decide +kernel
theorem dX7_parts_19 : decode cX7_parts 19 = .ok (.iload_n 3, 1) := by decide +kernel
theorem dX7_parts_20 : decode cX7_parts 20 = .ok (.iadd, 1) := by decide +kernel
theorem dX7_parts_21 : decode cX7_parts 21 = .ok (.istore 5, 2) := by decide +kernel
theorem dX7_parts_23 : decode cX7_parts 23 = .ok (.aload_n 0, 1) := by decide +kernel
theorem dX7_parts_24 : decode cX7_parts 24 = .ok (.iload_n 3, 1) := by decide +kernel
theorem dX7_parts_25 : decode cX7_parts 25 = .ok (.invokevirtual 69, 3) := by decide +kernel
theorem dX7_parts_28 : decode cX7_parts 28 = .ok (.ifCond .eq 15, 3) := by decide +kernel
theorem dX7_parts_31 : decode cX7_parts 31 = .ok (.aload_n 0, 1) := by decide +kernel
theorem dX7_parts_32 : decode cX7_parts 32 = .ok (.iload_n 3, 1) := by decide +kernel
theorem dX7_parts_33 : decode cX7_parts 33 = .ok (.iload_n 1, 1) := by decide +kernel
theorem dX7_parts_34 : decode cX7_parts 34 = .ok (.iload 4, 2) := by decide +kernel
theorem dX7_parts_36 : decode cX7_parts 36 = .ok (.iload_n 2, 1) := by decide +kernel
theorem dX7_parts_37 : decode cX7_parts 37 = .ok (.invokevirtual 84, 3) := by decide +kernel
theorem dX7_parts_40 : decode cX7_parts 40 = .ok (.goto 13, 3) := by decide +kernel
theorem dX7_parts_43 : decode cX7_parts 43 = .ok (.iload 4, 2) := by decide +kernel
theorem dX7_parts_45 : decode cX7_parts 45 = .ok (.ifCond .ne 7, 3) := by decide +kernel
theorem dX7_parts_48 : decode cX7_parts 48 = .ok (.iconst 0, 1) := by decide +kernel
theorem dX7_parts_49 : decode cX7_parts 49 = .ok (.goto 4, 3) := by decide +kernel
theorem dX7_parts_52 : decode cX7_parts 52 = .ok (.iconst (-1), 1) := by decide +kernel
theorem dX7_parts_53 : decode cX7_parts 53 = .ok (.istore 6, 2) := by decide +kernel
theorem dX7_parts_55 : decode cX7_parts 55 = .ok (.iload 6, 2) := by decide +kernel
theorem dX7_parts_57 : decode cX7_parts 57 = .ok (.ifCond .lt 21, 3) := by decide +kernel
theorem dX7_parts_60 : decode cX7_parts 60 = .ok (.aload_n 0, 1) := by decide +kernel
theorem dX7_parts_61 : decode cX7_parts 61 = .ok (.getfield 32, 3) := by decide +kernel
theorem dX7_parts_64 : decode cX7_parts 64 = .ok (.iload 5, 2) := by decide +kernel
theorem dX7_parts_66 : decode cX7_parts 66 = .ok (.iload 6, 2) := by decide +kernel
theorem dX7_parts_68 : decode cX7_parts 68 = .ok (.iastore, 1) := by decide +kernel
theorem dX7_parts_69 : decode cX7_parts 69 = .ok (.iinc 3 1, 3) := by decide +kernel
theorem dX7_parts_72 : decode cX7_parts 72 = .ok (.iconst 0, 1) := by decide +kernel
theorem dX7_parts_73 : decode cX7_parts 73 = .ok (.istore 4, 2) := by decide +kernel
theorem dX7_parts_75 : decode cX7_parts 75 = .ok (.goto 29, 3) := by decide +kernel
theorem dX7_parts_78 : decode cX7_parts 78 = .ok (.iinc 3 (-1), 3) := by decide +kernel
theorem dX7_parts_81 : decode cX7_parts 81 = .ok (.iload_n 3, 1) := by decide +kernel
theorem dX7_parts_82 : decode cX7_parts 82 = .ok (.ifCond .lt 19, 3) := by decide +kernel
theorem dX7_parts_85 : decode cX7_parts 85 = .ok (.aload_n 0, 1) := by decide +kernel
theorem dX7_parts_86 : decode cX7_parts 86 = .ok (.getfield 32, 3) := by decide +kernel
theorem dX7_parts_89 : decode cX7_parts 89 = .ok (.bipush 8, 2) := by decide +kernel
theorem dX7_parts_91 : decode cX7_parts 91 = .ok (.iload_n 1, 1) := by decide +kernel
theorem dX7_parts_92 : decode cX7_parts 92 = .ok (.imul, 1) := by decide +kernel
theorem dX7_parts_93 : decode cX7_parts 93 = .ok (.iload_n 3, 1) := by decide +kernel
theorem dX7_parts_94 : decode cX7_parts 94 = .ok (.iadd, 1) := by decide +kernel
theorem dX7_parts_95 : decode cX7_parts 95 = .ok (.iaload, 1) := by decide +kernel
theorem dX7_parts_96 : decode cX7_parts 96 = .ok (.iconst 1, 1) := by decide +kernel
theorem dX7_parts_97 : decode cX7_parts 97 = .ok (.iadd, 1) := by decide +kernel
theorem dX7_parts_98 : decode cX7_parts 98 = .ok (.goto 4, 3) := by decide +kernel
theorem dX7_parts_101 : decode cX7_parts 101 = .ok (.iconst 0, 1) := by decide +kernel
theorem dX7_parts_102 : decode cX7_parts 102 = .ok (.istore 4, 2) := by decide +kernel
theorem dX7_parts_104 : decode cX7_parts 104 = .ok (.goto (-99), 3) := by decide +kernel
theorem dX7_parts_107 : decode cX7_parts 107 = .ok (.iload_n 3, 1) := by decide +kernel
theorem dX7_parts_108 : decode cX7_parts 108 = .ok (.bipush 8, 2) := by decide +kernel
theorem dX7_parts_110 : decode cX7_parts 110 = .ok (.if_icmp .ne 7, 3) := by decide +kernel
theorem dX7_parts_113 : decode cX7_parts 113 = .ok (.iconst 1, 1) := by decide +kernel
theorem dX7_parts_114 : decode cX7_parts 114 = .ok (.goto 4, 3) := by decide +kernel
theorem dX7_parts_117 : decode cX7_parts 117 = .ok (.iconst 0, 1) := by decide +kernel
theorem dX7_parts_118 : decode cX7_parts 118 = .ok (.ireturn, 1) := by decide +kernel
theorem dX7_layClasses_0 : decode cX7_layClasses 0 = .ok (.iconst 0, 1) := by decide +kernel
theorem dX7_layClasses_1 : decode cX7_layClasses 1 = .ok (.istore_n 1, 1) := by decide +kernel
theorem dX7_layClasses_2 : decode cX7_layClasses 2 = .ok (.iload_n 1, 1) := by decide +kernel
theorem dX7_layClasses_3 : decode cX7_layClasses 3 = .ok (.iconst 2, 1) := by decide +kernel
theorem dX7_layClasses_4 : decode cX7_layClasses 4 = .ok (.if_icmp .ge 33, 3) := by decide +kernel
theorem dX7_layClasses_7 : decode cX7_layClasses 7 = .ok (.iconst 0, 1) := by decide +kernel
theorem dX7_layClasses_8 : decode cX7_layClasses 8 = .ok (.istore_n 2, 1) := by decide +kernel
theorem dX7_layClasses_9 : decode cX7_layClasses 9 = .ok (.aload_n 0, 1) := by decide +kernel
theorem dX7_layClasses_10 : decode cX7_layClasses 10 = .ok (.iload_n 1, 1) := by decide +kernel
theorem dX7_layClasses_11 : decode cX7_layClasses 11 = .ok (.iload_n 2, 1) := by decide +kernel
theorem dX7_layClasses_12 : decode cX7_layClasses 12 = .ok (.invokevirtual 88, 3) := by decide +kernel
theorem dX7_layClasses_15 : decode cX7_layClasses 15 = .ok (.ifCond .ne 9, 3) := by decide +kernel
theorem dX7_layClasses_18 : decode cX7_layClasses 18 = .ok (.iinc 2 1, 3) := by decide +kernel
theorem dX7_layClasses_21 : decode cX7_layClasses 21 = .ok (.goto (-12), 3) := by decide +kernel
theorem dX7_layClasses_24 : decode cX7_layClasses 24 = .ok (.aload_n 0, 1) := by decide +kernel
theorem dX7_layClasses_25 : decode cX7_layClasses 25 = .ok (.getfield 35, 3) := by decide +kernel
theorem dX7_layClasses_28 : decode cX7_layClasses 28 = .ok (.iload_n 1, 1) := by decide +kernel
theorem dX7_layClasses_29 : decode cX7_layClasses 29 = .ok (.iload_n 2, 1) := by decide +kernel
theorem dX7_layClasses_30 : decode cX7_layClasses 30 = .ok (.iastore, 1) := by decide +kernel
theorem dX7_layClasses_31 : decode cX7_layClasses 31 = .ok (.iinc 1 1, 3) := by decide +kernel
theorem dX7_layClasses_34 : decode cX7_layClasses 34 = .ok (.goto (-32), 3) := by decide +kernel
theorem dX7_layClasses_37 : decode cX7_layClasses 37 = .ok (.return_, 1) := by decide +kernel
theorem dX7_white_0 : decode cX7_white 0 = .ok (.iconst 0, 1) := by decide +kernel
theorem dX7_white_1 : decode cX7_white 1 = .ok (.istore 4, 2) := by decide +kernel
theorem dX7_white_3 : decode cX7_white 3 = .ok (.iconst 0, 1) := by decide +kernel
theorem dX7_white_4 : decode cX7_white 4 = .ok (.istore 5, 2) := by decide +kernel
theorem dX7_white_6 : decode cX7_white 6 = .ok (.iload 5, 2) := by decide +kernel
theorem dX7_white_8 : decode cX7_white 8 = .ok (.iconst 5, 1) := by decide +kernel
theorem dX7_white_9 : decode cX7_white 9 = .ok (.if_icmp .ge 64, 3) := by decide +kernel
theorem dX7_white_12 : decode cX7_white 12 = .ok (.aload_n 0, 1) := by decide +kernel
theorem dX7_white_13 : decode cX7_white 13 = .ok (.iload_n 1, 1) := by decide +kernel
theorem dX7_white_14 : decode cX7_white 14 = .ok (.iconst 1, 1) := by decide +kernel
theorem dX7_white_15 : decode cX7_white 15 = .ok (.iload 5, 2) := by decide +kernel
theorem dX7_white_17 : decode cX7_white 17 = .ok (.invokevirtual 61, 3) := by decide +kernel
theorem dX7_white_20 : decode cX7_white 20 = .ok (.aload_n 0, 1) := by decide +kernel
theorem dX7_white_21 : decode cX7_white 21 = .ok (.iload_n 2, 1) := by decide +kernel
theorem dX7_white_22 : decode cX7_white 22 = .ok (.iconst 0, 1) := by decide +kernel
theorem dX7_white_23 : decode cX7_white 23 = .ok (.iload 5, 2) := by decide +kernel
theorem dX7_white_25 : decode cX7_white 25 = .ok (.invokevirtual 61, 3) := by decide +kernel
theorem dX7_white_28 : decode cX7_white 28 = .ok (.iadd, 1) := by decide +kernel
theorem dX7_white_29 : decode cX7_white 29 = .ok (.iload_n 3, 1) := by decide +kernel
theorem dX7_white_30 : decode cX7_white 30 = .ok (.iadd, 1) := by decide +kernel
theorem dX7_white_31 : decode cX7_white 31 = .ok (.istore 6, 2) := by decide +kernel
theorem dX7_white_33 : decode cX7_white 33 = .ok (.iload 4, 2) := by decide +kernel
theorem dX7_white_35 : decode cX7_white 35 = .ok (.iload 6, 2) := by decide +kernel
theorem dX7_white_37 : decode cX7_white 37 = .ok (.ifCond .ge 7, 3) := by decide +kernel
theorem dX7_white_40 : decode cX7_white 40 = .ok (.iconst 0, 1) := by decide +kernel
theorem dX7_white_41 : decode cX7_white 41 = .ok (.goto 23, 3) := by decide +kernel
theorem dX7_white_44 : decode cX7_white 44 = .ok (.iload 6, 2) := by decide +kernel
theorem dX7_white_46 : decode cX7_white 46 = .ok (.aload_n 0, 1) := by decide +kernel
theorem dX7_white_47 : decode cX7_white 47 = .ok (.iconst 2, 1) := by decide +kernel
theorem dX7_white_48 : decode cX7_white 48 = .ok (.invokevirtual 65, 3) := by decide +kernel
theorem dX7_white_51 : decode cX7_white 51 = .ok (.if_icmp .le 11, 3) := by decide +kernel
theorem dX7_white_54 : decode cX7_white 54 = .ok (.aload_n 0, 1) := by decide +kernel
theorem dX7_white_55 : decode cX7_white 55 = .ok (.iconst 2, 1) := by decide +kernel
theorem dX7_white_56 : decode cX7_white 56 = .ok (.invokevirtual 65, 3) := by decide +kernel
theorem dX7_white_59 : decode cX7_white 59 = .ok (.goto 5, 3) := by decide +kernel
theorem dX7_white_62 : decode cX7_white 62 = .ok (.iload 6, 2) := by decide +kernel
theorem dX7_white_64 : decode cX7_white 64 = .ok (.iadd, 1) := by decide +kernel
theorem dX7_white_65 : decode cX7_white 65 = .ok (.istore 4, 2) := by decide +kernel
theorem dX7_white_67 : decode cX7_white 67 = .ok (.iinc 5 1, 3) := by decide +kernel
theorem dX7_white_70 : decode cX7_white 70 = .ok (.goto (-64), 3) := by decide +kernel
theorem dX7_white_73 : decode cX7_white 73 = .ok (.iload 4, 2) := by decide +kernel
theorem dX7_white_75 : decode cX7_white 75 = .ok (.ireturn, 1) := by decide +kernel
theorem dX7_sight_0 : decode cX7_sight 0 = .ok (.bipush (-20), 2) := by decide +kernel
theorem dX7_sight_2 : decode cX7_sight 2 = .ok (.istore_n 3, 1) := by decide +kernel
theorem dX7_sight_3 : decode cX7_sight 3 = .ok (.iload_n 3, 1) := by decide +kernel
theorem dX7_sight_4 : decode cX7_sight 4 = .ok (.bipush 20, 2) := by decide +kernel
theorem dX7_sight_6 : decode cX7_sight 6 = .ok (.if_icmp .ge 24, 3) := by decide +kernel
theorem dX7_sight_9 : decode cX7_sight 9 = .ok (.aload_n 0, 1) := by decide +kernel
theorem dX7_sight_10 : decode cX7_sight 10 = .ok (.iload_n 1, 1) := by decide +kernel
theorem dX7_sight_11 : decode cX7_sight 11 = .ok (.iload_n 2, 1) := by decide +kernel
theorem dX7_sight_12 : decode cX7_sight 12 = .ok (.iload_n 3, 1) := by decide +kernel
theorem dX7_sight_13 : decode cX7_sight 13 = .ok (.invokevirtual 91, 3) := by decide +kernel
theorem dX7_sight_16 : decode cX7_sight 16 = .ok (.aload_n 0, 1) := by decide +kernel
theorem dX7_sight_17 : decode cX7_sight 17 = .ok (.iconst 3, 1) := by decide +kernel
theorem dX7_sight_18 : decode cX7_sight 18 = .ok (.invokevirtual 65, 3) := by decide +kernel
theorem dX7_sight_21 : decode cX7_sight 21 = .ok (.if_icmp .ge 9, 3) := by decide +kernel
theorem dX7_sight_24 : decode cX7_sight 24 = .ok (.iinc 3 1, 3) := by decide +kernel
theorem dX7_sight_27 : decode cX7_sight 27 = .ok (.goto (-24), 3) := by decide +kernel
theorem dX7_sight_30 : decode cX7_sight 30 = .ok (.iload_n 3, 1) := by decide +kernel
theorem dX7_sight_31 : decode cX7_sight 31 = .ok (.ireturn, 1) := by decide +kernel
theorem dX7_isIn_0 : decode cX7_isIn 0 = .ok (.aload_n 0, 1) := by decide +kernel
theorem dX7_isIn_1 : decode cX7_isIn 1 = .ok (.iload_n 1, 1) := by decide +kernel
theorem dX7_isIn_2 : decode cX7_isIn 2 = .ok (.invokevirtual 69, 3) := by decide +kernel
theorem dX7_isIn_5 : decode cX7_isIn 5 = .ok (.ifCond .eq 39, 3) := by decide +kernel
theorem dX7_isIn_8 : decode cX7_isIn 8 = .ok (.aload_n 0, 1) := by decide +kernel
theorem dX7_isIn_9 : decode cX7_isIn 9 = .ok (.iload_n 2, 1) := by decide +kernel
theorem dX7_isIn_10 : decode cX7_isIn 10 = .ok (.invokevirtual 69, 3) := by decide +kernel
theorem dX7_isIn_13 : decode cX7_isIn 13 = .ok (.ifCond .eq 31, 3) := by decide +kernel
theorem dX7_isIn_16 : decode cX7_isIn 16 = .ok (.aload_n 0, 1) := by decide +kernel
theorem dX7_isIn_17 : decode cX7_isIn 17 = .ok (.getfield 32, 3) := by decide +kernel
theorem dX7_isIn_20 : decode cX7_isIn 20 = .ok (.bipush 8, 2) := by decide +kernel
theorem dX7_isIn_22 : decode cX7_isIn 22 = .ok (.iload_n 1, 1) := by decide +kernel
theorem dX7_isIn_23 : decode cX7_isIn 23 = .ok (.iadd, 1) := by decide +kernel
theorem dX7_isIn_24 : decode cX7_isIn 24 = .ok (.iaload, 1) := by decide +kernel
theorem dX7_isIn_25 : decode cX7_isIn 25 = .ok (.iload_n 3, 1) := by decide +kernel
theorem dX7_isIn_26 : decode cX7_isIn 26 = .ok (.if_icmp .ne 18, 3) := by decide +kernel
theorem dX7_isIn_29 : decode cX7_isIn 29 = .ok (.aload_n 0, 1) := by decide +kernel
theorem dX7_isIn_30 : decode cX7_isIn 30 = .ok (.getfield 32, 3) := by decide +kernel
theorem dX7_isIn_33 : decode cX7_isIn 33 = .ok (.iload_n 2, 1) := by decide +kernel
theorem dX7_isIn_34 : decode cX7_isIn 34 = .ok (.iaload, 1) := by decide +kernel
theorem dX7_isIn_35 : decode cX7_isIn 35 = .ok (.iload 4, 2) := by decide +kernel
theorem dX7_isIn_37 : decode cX7_isIn 37 = .ok (.if_icmp .ne 7, 3) := by decide +kernel
theorem dX7_isIn_40 : decode cX7_isIn 40 = .ok (.iconst 1, 1) := by decide +kernel
theorem dX7_isIn_41 : decode cX7_isIn 41 = .ok (.goto 4, 3) := by decide +kernel
theorem dX7_isIn_44 : decode cX7_isIn 44 = .ok (.iconst 0, 1) := by decide +kernel
theorem dX7_isIn_45 : decode cX7_isIn 45 = .ok (.ireturn, 1) := by decide +kernel
theorem dX7_window_0 : decode cX7_window 0 = .ok (.iconst 0, 1) := by decide +kernel
theorem dX7_window_1 : decode cX7_window 1 = .ok (.istore 6, 2) := by decide +kernel
theorem dX7_window_3 : decode cX7_window 3 = .ok (.iconst 0, 1) := by decide +kernel
theorem dX7_window_4 : decode cX7_window 4 = .ok (.istore 7, 2) := by decide +kernel
theorem dX7_window_6 : decode cX7_window 6 = .ok (.iload 7, 2) := by decide +kernel
theorem dX7_window_8 : decode cX7_window 8 = .ok (.bipush 64, 2) := by decide +kernel
theorem dX7_window_10 : decode cX7_window 10 = .ok (.if_icmp .ge 91, 3) := by decide +kernel
theorem dX7_window_13 : decode cX7_window 13 = .ok (.aload_n 0, 1) := by decide +kernel
theorem dX7_window_14 : decode cX7_window 14 = .ok (.getfield 7, 3) := by decide +kernel
theorem dX7_window_17 : decode cX7_window 17 = .ok (.bipush 94, 2) := by decide +kernel
theorem dX7_window_19 : decode cX7_window 19 = .ok (.iload 7, 2) := by decide +kernel
theorem dX7_window_21 : decode cX7_window 21 = .ok (.iadd, 1) := by decide +kernel
theorem dX7_window_22 : decode cX7_window 22 = .ok (.iaload, 1) := by decide +kernel
theorem dX7_window_23 : decode cX7_window 23 = .ok (.istore 8, 2) := by decide +kernel
theorem dX7_window_25 : decode cX7_window 25 = .ok (.aload_n 0, 1) := by decide +kernel
theorem dX7_window_26 : decode cX7_window 26 = .ok (.iload 7, 2) := by decide +kernel
theorem dX7_window_28 : decode cX7_window 28 = .ok (.bipush 8, 2) := by decide +kernel
theorem dX7_window_30 : decode cX7_window 30 = .ok (.idiv, 1) := by decide +kernel
theorem dX7_window_31 : decode cX7_window 31 = .ok (.iload 7, 2) := by decide +kernel
theorem dX7_window_33 : decode cX7_window 33 = .ok (.bipush 8, 2) := by decide +kernel
theorem dX7_window_35 : decode cX7_window 35 = .ok (.irem, 1) := by decide +kernel
theorem dX7_window_36 : decode cX7_window 36 = .ok (.iload_n 1, 1) := by decide +kernel
theorem dX7_window_37 : decode cX7_window 37 = .ok (.iload_n 2, 1) := by decide +kernel
theorem dX7_window_38 : decode cX7_window 38 = .ok (.invokevirtual 94, 3) := by decide +kernel
theorem dX7_window_41 : decode cX7_window 41 = .ok (.ifCond .eq 26, 3) := by decide +kernel
theorem dX7_window_44 : decode cX7_window 44 = .ok (.iload 8, 2) := by decide +kernel
theorem dX7_window_46 : decode cX7_window 46 = .ok (.ifCond .le 21, 3) := by decide +kernel
theorem dX7_window_49 : decode cX7_window 49 = .ok (.iload 8, 2) := by decide +kernel
theorem dX7_window_51 : decode cX7_window 51 = .ok (.i2l, 1) := by decide +kernel
theorem dX7_window_52 : decode cX7_window 52 = .ok (.iload_n 3, 1) := by decide +kernel
theorem dX7_window_53 : decode cX7_window 53 = .ok (.i2l, 1) := by decide +kernel
theorem dX7_window_54 : decode cX7_window 54 = .ok (.iload 4, 2) := by decide +kernel
theorem dX7_window_56 : decode cX7_window 56 = .ok (.i2l, 1) := by decide +kernel
theorem dX7_window_57 : decode cX7_window 57 = .ok (.invokestatic 53, 3) := by decide +kernel
theorem dX7_window_60 : decode cX7_window 60 = .ok (.ifCond .eq 7, 3) := by decide +kernel
theorem dX7_window_63 : decode cX7_window 63 = .ok (.iconst 1, 1) := by decide +kernel
theorem dX7_window_64 : decode cX7_window 64 = .ok (.goto 4, 3) := by decide +kernel
theorem dX7_window_67 : decode cX7_window 67 = .ok (.iconst 0, 1) := by decide +kernel
theorem dX7_window_68 : decode cX7_window 68 = .ok (.istore 9, 2) := by decide +kernel
theorem dX7_window_70 : decode cX7_window 70 = .ok (.iload 6, 2) := by decide +kernel
theorem dX7_window_72 : decode cX7_window 72 = .ok (.iload 9, 2) := by decide +kernel
theorem dX7_window_74 : decode cX7_window 74 = .ok (.ifCond .eq 17, 3) := by decide +kernel
theorem dX7_window_77 : decode cX7_window 77 = .ok (.iload 5, 2) := by decide +kernel
theorem dX7_window_79 : decode cX7_window 79 = .ok (.ifCond .eq 8, 3) := by decide +kernel
theorem dX7_window_82 : decode cX7_window 82 = .ok (.iload 8, 2) := by decide +kernel
theorem dX7_window_84 : decode cX7_window 84 = .ok (.goto 8, 3) := by decide +kernel
theorem dX7_window_87 : decode cX7_window 87 = .ok (.iconst 1, 1) := by decide +kernel
theorem dX7_window_88 : decode cX7_window 88 = .ok (.goto 4, 3) := by decide +kernel
theorem dX7_window_91 : decode cX7_window 91 = .ok (.iconst 0, 1) := by decide +kernel
theorem dX7_window_92 : decode cX7_window 92 = .ok (.iadd, 1) := by decide +kernel
theorem dX7_window_93 : decode cX7_window 93 = .ok (.istore 6, 2) := by decide +kernel
theorem dX7_window_95 : decode cX7_window 95 = .ok (.iinc 7 1, 3) := by decide +kernel
theorem dX7_window_98 : decode cX7_window 98 = .ok (.goto (-92), 3) := by decide +kernel
theorem dX7_window_101 : decode cX7_window 101 = .ok (.iload 6, 2) := by decide +kernel
theorem dX7_window_103 : decode cX7_window 103 = .ok (.ireturn, 1) := by decide +kernel
theorem dX7_windowOf_0 : decode cX7_windowOf 0 = .ok (.iconst 0, 1) := by decide +kernel
theorem dX7_windowOf_1 : decode cX7_windowOf 1 = .ok (.istore_n 3, 1) := by decide +kernel
theorem dX7_windowOf_2 : decode cX7_windowOf 2 = .ok (.iconst 0, 1) := by decide +kernel
theorem dX7_windowOf_3 : decode cX7_windowOf 3 = .ok (.istore 4, 2) := by decide +kernel
theorem dX7_windowOf_5 : decode cX7_windowOf 5 = .ok (.bipush 80, 2) := by decide +kernel
theorem dX7_windowOf_7 : decode cX7_windowOf 7 = .ok (.istore 5, 2) := by decide +kernel
theorem dX7_windowOf_9 : decode cX7_windowOf 9 = .ok (.iload 5, 2) := by decide +kernel
theorem dX7_windowOf_11 : decode cX7_windowOf 11 = .ok (.bipush 120, 2) := by decide +kernel
theorem dX7_windowOf_13 : decode cX7_windowOf 13 = .ok (.if_icmp .gt 91, 3) := by decide +kernel
theorem dX7_windowOf_16 : decode cX7_windowOf 16 = .ok (.aload_n 0, 1) := by decide +kernel
theorem dX7_windowOf_17 : decode cX7_windowOf 17 = .ok (.iload_n 1, 1) := by decide +kernel
theorem dX7_windowOf_18 : decode cX7_windowOf 18 = .ok (.iload_n 2, 1) := by decide +kernel
theorem dX7_windowOf_19 : decode cX7_windowOf 19 = .ok (.iload 5, 2) := by decide +kernel
theorem dX7_windowOf_21 : decode cX7_windowOf 21 = .ok (.iload 5, 2) := by decide +kernel
theorem dX7_windowOf_23 : decode cX7_windowOf 23 = .ok (.iconst 2, 1) := by decide +kernel
theorem dX7_windowOf_24 : decode cX7_windowOf 24 = .ok (.aload_n 0, 1) := by decide +kernel
theorem dX7_windowOf_25 : decode cX7_windowOf 25 = .ok (.iconst 1, 1) := by decide +kernel
theorem dX7_windowOf_26 : decode cX7_windowOf 26 = .ok (.invokevirtual 65, 3) := by decide +kernel
theorem dX7_windowOf_29 : decode cX7_windowOf 29 = .ok (.imul, 1) := by decide +kernel
theorem dX7_windowOf_30 : decode cX7_windowOf 30 = .ok (.iadd, 1) := by decide +kernel
theorem dX7_windowOf_31 : decode cX7_windowOf 31 = .ok (.iconst 0, 1) := by decide +kernel
theorem dX7_windowOf_32 : decode cX7_windowOf 32 = .ok (.invokevirtual 98, 3) := by decide +kernel
theorem dX7_windowOf_35 : decode cX7_windowOf 35 = .ok (.istore 6, 2) := by decide +kernel
theorem dX7_windowOf_37 : decode cX7_windowOf 37 = .ok (.aload_n 0, 1) := by decide +kernel
theorem dX7_windowOf_38 : decode cX7_windowOf 38 = .ok (.iload_n 1, 1) := by decide +kernel
theorem dX7_windowOf_39 : decode cX7_windowOf 39 = .ok (.iload_n 2, 1) := by decide +kernel
theorem dX7_windowOf_40 : decode cX7_windowOf 40 = .ok (.iload 5, 2) := by decide +kernel
theorem dX7_windowOf_42 : decode cX7_windowOf 42 = .ok (.iload 5, 2) := by decide +kernel
theorem dX7_windowOf_44 : decode cX7_windowOf 44 = .ok (.iconst 0, 1) := by decide +kernel
theorem dX7_windowOf_45 : decode cX7_windowOf 45 = .ok (.invokevirtual 98, 3) := by decide +kernel
theorem dX7_windowOf_48 : decode cX7_windowOf 48 = .ok (.ifCond .le 7, 3) := by decide +kernel
theorem dX7_windowOf_51 : decode cX7_windowOf 51 = .ok (.iconst 1, 1) := by decide +kernel
theorem dX7_windowOf_52 : decode cX7_windowOf 52 = .ok (.goto 4, 3) := by decide +kernel
theorem dX7_windowOf_55 : decode cX7_windowOf 55 = .ok (.iconst 0, 1) := by decide +kernel
theorem dX7_windowOf_56 : decode cX7_windowOf 56 = .ok (.istore 7, 2) := by decide +kernel
theorem dX7_windowOf_58 : decode cX7_windowOf 58 = .ok (.iload 7, 2) := by decide +kernel
theorem dX7_windowOf_60 : decode cX7_windowOf 60 = .ok (.ifCond .eq 15, 3) := by decide +kernel
theorem dX7_windowOf_63 : decode cX7_windowOf 63 = .ok (.iload 6, 2) := by decide +kernel
theorem dX7_windowOf_65 : decode cX7_windowOf 65 = .ok (.iload 4, 2) := by decide +kernel
theorem dX7_windowOf_67 : decode cX7_windowOf 67 = .ok (.if_icmp .le 8, 3) := by decide +kernel
theorem dX7_windowOf_70 : decode cX7_windowOf 70 = .ok (.iload 5, 2) := by decide +kernel
theorem dX7_windowOf_72 : decode cX7_windowOf 72 = .ok (.goto 4, 3) := by decide +kernel
theorem dX7_windowOf_75 : decode cX7_windowOf 75 = .ok (.iload_n 3, 1) := by decide +kernel
theorem dX7_windowOf_76 : decode cX7_windowOf 76 = .ok (.istore_n 3, 1) := by decide +kernel
theorem dX7_windowOf_77 : decode cX7_windowOf 77 = .ok (.iload 7, 2) := by decide +kernel
theorem dX7_windowOf_79 : decode cX7_windowOf 79 = .ok (.ifCond .eq 15, 3) := by decide +kernel
theorem dX7_windowOf_82 : decode cX7_windowOf 82 = .ok (.iload 6, 2) := by decide +kernel
theorem dX7_windowOf_84 : decode cX7_windowOf 84 = .ok (.iload 4, 2) := by decide +kernel
theorem dX7_windowOf_86 : decode cX7_windowOf 86 = .ok (.if_icmp .le 8, 3) := by decide +kernel
theorem dX7_windowOf_89 : decode cX7_windowOf 89 = .ok (.iload 6, 2) := by decide +kernel
theorem dX7_windowOf_91 : decode cX7_windowOf 91 = .ok (.goto 5, 3) := by decide +kernel
theorem dX7_windowOf_94 : decode cX7_windowOf 94 = .ok (.iload 4, 2) := by decide +kernel
theorem dX7_windowOf_96 : decode cX7_windowOf 96 = .ok (.istore 4, 2) := by decide +kernel
theorem dX7_windowOf_98 : decode cX7_windowOf 98 = .ok (.iinc 5 1, 3) := by decide +kernel
theorem dX7_windowOf_101 : decode cX7_windowOf 101 = .ok (.goto (-92), 3) := by decide +kernel
theorem dX7_windowOf_104 : decode cX7_windowOf 104 = .ok (.iload_n 3, 1) := by decide +kernel
theorem dX7_windowOf_105 : decode cX7_windowOf 105 = .ok (.ireturn, 1) := by decide +kernel
theorem dX7_isStrange_0 : decode cX7_isStrange 0 = .ok (.aload_n 0, 1) := by decide +kernel
theorem dX7_isStrange_1 : decode cX7_isStrange 1 = .ok (.aload_n 0, 1) := by decide +kernel
theorem dX7_isStrange_2 : decode cX7_isStrange 2 = .ok (.getfield 32, 3) := by decide +kernel
theorem dX7_isStrange_5 : decode cX7_isStrange 5 = .ok (.bipush 8, 2) := by decide +kernel
theorem dX7_isStrange_7 : decode cX7_isStrange 7 = .ok (.iload_n 1, 1) := by decide +kernel
theorem dX7_isStrange_8 : decode cX7_isStrange 8 = .ok (.iadd, 1) := by decide +kernel
theorem dX7_isStrange_9 : decode cX7_isStrange 9 = .ok (.iaload, 1) := by decide +kernel
theorem dX7_isStrange_10 : decode cX7_isStrange 10 = .ok (.aload_n 0, 1) := by decide +kernel
theorem dX7_isStrange_11 : decode cX7_isStrange 11 = .ok (.getfield 32, 3) := by decide +kernel
theorem dX7_isStrange_14 : decode cX7_isStrange 14 = .ok (.iload_n 2, 1) := by decide +kernel
theorem dX7_isStrange_15 : decode cX7_isStrange 15 = .ok (.iaload, 1) := by decide +kernel
theorem dX7_isStrange_16 : decode cX7_isStrange 16 = .ok (.invokevirtual 102, 3) := by decide +kernel
theorem dX7_isStrange_19 : decode cX7_isStrange 19 = .ok (.istore_n 3, 1) := by decide +kernel
theorem dX7_isStrange_20 : decode cX7_isStrange 20 = .ok (.aload_n 0, 1) := by decide +kernel
theorem dX7_isStrange_21 : decode cX7_isStrange 21 = .ok (.iload_n 1, 1) := by decide +kernel
theorem dX7_isStrange_22 : decode cX7_isStrange 22 = .ok (.iload_n 2, 1) := by decide +kernel
theorem dX7_isStrange_23 : decode cX7_isStrange 23 = .ok (.invokevirtual 105, 3) := by decide +kernel
theorem dX7_isStrange_26 : decode cX7_isStrange 26 = .ok (.ifCond .le 32, 3) := by decide +kernel
theorem dX7_isStrange_29 : decode cX7_isStrange 29 = .ok (.aload_n 0, 1) := by decide +kernel
theorem dX7_isStrange_30 : decode cX7_isStrange 30 = .ok (.iload_n 1, 1) := by decide +kernel
theorem dX7_isStrange_31 : decode cX7_isStrange 31 = .ok (.iload_n 2, 1) := by decide +kernel
theorem dX7_isStrange_32 : decode cX7_isStrange 32 = .ok (.invokevirtual 105, 3) := by decide +kernel
theorem dX7_isStrange_35 : decode cX7_isStrange 35 = .ok (.i2l, 1) := by decide +kernel
theorem dX7_isStrange_36 : decode cX7_isStrange 36 = .ok (.iload_n 3, 1) := by decide +kernel
theorem dX7_isStrange_37 : decode cX7_isStrange 37 = .ok (.i2l, 1) := by decide +kernel
theorem dX7_isStrange_38 : decode cX7_isStrange 38 = .ok (.iload_n 3, 1) := by decide +kernel
theorem dX7_isStrange_39 : decode cX7_isStrange 39 = .ok (.iconst 2, 1) := by decide +kernel
theorem dX7_isStrange_40 : decode cX7_isStrange 40 = .ok (.aload_n 0, 1) := by decide +kernel
theorem dX7_isStrange_41 : decode cX7_isStrange 41 = .ok (.iconst 1, 1) := by decide +kernel
theorem dX7_isStrange_42 : decode cX7_isStrange 42 = .ok (.invokevirtual 65, 3) := by decide +kernel
theorem dX7_isStrange_45 : decode cX7_isStrange 45 = .ok (.imul, 1) := by decide +kernel
theorem dX7_isStrange_46 : decode cX7_isStrange 46 = .ok (.iadd, 1) := by decide +kernel
theorem dX7_isStrange_47 : decode cX7_isStrange 47 = .ok (.i2l, 1) := by decide +kernel
theorem dX7_isStrange_48 : decode cX7_isStrange 48 = .ok (.invokestatic 53, 3) := by decide +kernel
theorem dX7_isStrange_51 : decode cX7_isStrange 51 = .ok (.ifCond .ne 7, 3) := by decide +kernel
theorem dX7_isStrange_54 : decode cX7_isStrange 54 = .ok (.iconst 1, 1) := by decide +kernel
theorem dX7_isStrange_55 : decode cX7_isStrange 55 = .ok (.goto 4, 3) := by decide +kernel
theorem dX7_isStrange_58 : decode cX7_isStrange 58 = .ok (.iconst 0, 1) := by decide +kernel
theorem dX7_isStrange_59 : decode cX7_isStrange 59 = .ok (.ireturn, 1) := by decide +kernel
theorem dX7_pairsIn_0 : decode cX7_pairsIn 0 = .ok (.iconst 0, 1) := by decide +kernel
theorem dX7_pairsIn_1 : decode cX7_pairsIn 1 = .ok (.istore_n 3, 1) := by decide +kernel
theorem dX7_pairsIn_2 : decode cX7_pairsIn 2 = .ok (.iconst 0, 1) := by decide +kernel
theorem dX7_pairsIn_3 : decode cX7_pairsIn 3 = .ok (.istore 4, 2) := by decide +kernel
theorem dX7_pairsIn_5 : decode cX7_pairsIn 5 = .ok (.iload 4, 2) := by decide +kernel
theorem dX7_pairsIn_7 : decode cX7_pairsIn 7 = .ok (.bipush 64, 2) := by decide +kernel
theorem dX7_pairsIn_9 : decode cX7_pairsIn 9 = .ok (.if_icmp .ge 36, 3) := by decide +kernel
theorem dX7_pairsIn_12 : decode cX7_pairsIn 12 = .ok (.iload_n 3, 1) := by decide +kernel
theorem dX7_pairsIn_13 : decode cX7_pairsIn 13 = .ok (.aload_n 0, 1) := by decide +kernel
theorem dX7_pairsIn_14 : decode cX7_pairsIn 14 = .ok (.iload 4, 2) := by decide +kernel
theorem dX7_pairsIn_16 : decode cX7_pairsIn 16 = .ok (.bipush 8, 2) := by decide +kernel
theorem dX7_pairsIn_18 : decode cX7_pairsIn 18 = .ok (.idiv, 1) := by decide +kernel
theorem dX7_pairsIn_19 : decode cX7_pairsIn 19 = .ok (.iload 4, 2) := by decide +kernel
theorem dX7_pairsIn_21 : decode cX7_pairsIn 21 = .ok (.bipush 8, 2) := by decide +kernel
theorem dX7_pairsIn_23 : decode cX7_pairsIn 23 = .ok (.irem, 1) := by decide +kernel
theorem dX7_pairsIn_24 : decode cX7_pairsIn 24 = .ok (.iload_n 1, 1) := by decide +kernel
theorem dX7_pairsIn_25 : decode cX7_pairsIn 25 = .ok (.iload_n 2, 1) := by decide +kernel
theorem dX7_pairsIn_26 : decode cX7_pairsIn 26 = .ok (.invokevirtual 94, 3) := by decide +kernel
theorem dX7_pairsIn_29 : decode cX7_pairsIn 29 = .ok (.ifCond .eq 7, 3) := by decide +kernel
theorem dX7_pairsIn_32 : decode cX7_pairsIn 32 = .ok (.iconst 1, 1) := by decide +kernel
theorem dX7_pairsIn_33 : decode cX7_pairsIn 33 = .ok (.goto 4, 3) := by decide +kernel
theorem dX7_pairsIn_36 : decode cX7_pairsIn 36 = .ok (.iconst 0, 1) := by decide +kernel
theorem dX7_pairsIn_37 : decode cX7_pairsIn 37 = .ok (.iadd, 1) := by decide +kernel
theorem dX7_pairsIn_38 : decode cX7_pairsIn 38 = .ok (.istore_n 3, 1) := by decide +kernel
theorem dX7_pairsIn_39 : decode cX7_pairsIn 39 = .ok (.iinc 4 1, 3) := by decide +kernel
theorem dX7_pairsIn_42 : decode cX7_pairsIn 42 = .ok (.goto (-37), 3) := by decide +kernel
theorem dX7_pairsIn_45 : decode cX7_pairsIn 45 = .ok (.iload_n 3, 1) := by decide +kernel
theorem dX7_pairsIn_46 : decode cX7_pairsIn 46 = .ok (.ireturn, 1) := by decide +kernel
theorem dX7_keptIn_0 : decode cX7_keptIn 0 = .ok (.aload_n 0, 1) := by decide +kernel
theorem dX7_keptIn_1 : decode cX7_keptIn 1 = .ok (.iload_n 1, 1) := by decide +kernel
theorem dX7_keptIn_2 : decode cX7_keptIn 2 = .ok (.iload_n 2, 1) := by decide +kernel
theorem dX7_keptIn_3 : decode cX7_keptIn 3 = .ok (.invokevirtual 102, 3) := by decide +kernel
theorem dX7_keptIn_6 : decode cX7_keptIn 6 = .ok (.istore_n 3, 1) := by decide +kernel
theorem dX7_keptIn_7 : decode cX7_keptIn 7 = .ok (.aload_n 0, 1) := by decide +kernel
theorem dX7_keptIn_8 : decode cX7_keptIn 8 = .ok (.iload_n 1, 1) := by decide +kernel
theorem dX7_keptIn_9 : decode cX7_keptIn 9 = .ok (.iload_n 2, 1) := by decide +kernel
theorem dX7_keptIn_10 : decode cX7_keptIn 10 = .ok (.iload_n 3, 1) := by decide +kernel
theorem dX7_keptIn_11 : decode cX7_keptIn 11 = .ok (.iload_n 3, 1) := by decide +kernel
theorem dX7_keptIn_12 : decode cX7_keptIn 12 = .ok (.iconst 2, 1) := by decide +kernel
theorem dX7_keptIn_13 : decode cX7_keptIn 13 = .ok (.aload_n 0, 1) := by decide +kernel
theorem dX7_keptIn_14 : decode cX7_keptIn 14 = .ok (.iconst 1, 1) := by decide +kernel
theorem dX7_keptIn_15 : decode cX7_keptIn 15 = .ok (.invokevirtual 65, 3) := by decide +kernel
theorem dX7_keptIn_18 : decode cX7_keptIn 18 = .ok (.imul, 1) := by decide +kernel
theorem dX7_keptIn_19 : decode cX7_keptIn 19 = .ok (.iadd, 1) := by decide +kernel
theorem dX7_keptIn_20 : decode cX7_keptIn 20 = .ok (.iconst 0, 1) := by decide +kernel
theorem dX7_keptIn_21 : decode cX7_keptIn 21 = .ok (.invokevirtual 98, 3) := by decide +kernel
theorem dX7_keptIn_24 : decode cX7_keptIn 24 = .ok (.ireturn, 1) := by decide +kernel
theorem dX7_above_0 : decode cX7_above 0 = .ok (.aload_n 0, 1) := by decide +kernel
theorem dX7_above_1 : decode cX7_above 1 = .ok (.iload_n 1, 1) := by decide +kernel
theorem dX7_above_2 : decode cX7_above 2 = .ok (.iload_n 2, 1) := by decide +kernel
theorem dX7_above_3 : decode cX7_above 3 = .ok (.invokevirtual 102, 3) := by decide +kernel
theorem dX7_above_6 : decode cX7_above 6 = .ok (.istore_n 3, 1) := by decide +kernel
theorem dX7_above_7 : decode cX7_above 7 = .ok (.iload_n 3, 1) := by decide +kernel
theorem dX7_above_8 : decode cX7_above 8 = .ok (.ifCond .le 21, 3) := by decide +kernel
theorem dX7_above_11 : decode cX7_above 11 = .ok (.aload_n 0, 1) := by decide +kernel
theorem dX7_above_12 : decode cX7_above 12 = .ok (.iload_n 1, 1) := by decide +kernel
theorem dX7_above_13 : decode cX7_above 13 = .ok (.iload_n 2, 1) := by decide +kernel
theorem dX7_above_14 : decode cX7_above 14 = .ok (.iload_n 3, 1) := by decide +kernel
theorem dX7_above_15 : decode cX7_above 15 = .ok (.iload_n 3, 1) := by decide +kernel
theorem dX7_above_16 : decode cX7_above 16 = .ok (.iconst 2, 1) := by decide +kernel
theorem dX7_above_17 : decode cX7_above 17 = .ok (.aload_n 0, 1) := by decide +kernel
theorem dX7_above_18 : decode cX7_above 18 = .ok (.iconst 1, 1) := by decide +kernel
theorem dX7_above_19 : decode cX7_above 19 = .ok (.invokevirtual 65, 3) := by decide +kernel
theorem dX7_above_22 : decode cX7_above 22 = .ok (.imul, 1) := by decide +kernel
theorem dX7_above_23 : decode cX7_above 23 = .ok (.iadd, 1) := by decide +kernel
theorem dX7_above_24 : decode cX7_above 24 = .ok (.iconst 1, 1) := by decide +kernel
theorem dX7_above_25 : decode cX7_above 25 = .ok (.invokevirtual 98, 3) := by decide +kernel
theorem dX7_above_28 : decode cX7_above 28 = .ok (.ireturn, 1) := by decide +kernel
theorem dX7_above_29 : decode cX7_above 29 = .ok (.iconst 0, 1) := by decide +kernel
theorem dX7_above_30 : decode cX7_above 30 = .ok (.istore 4, 2) := by decide +kernel
theorem dX7_above_32 : decode cX7_above 32 = .ok (.iconst 0, 1) := by decide +kernel
theorem dX7_above_33 : decode cX7_above 33 = .ok (.istore 5, 2) := by decide +kernel
theorem dX7_above_35 : decode cX7_above 35 = .ok (.iload 5, 2) := by decide +kernel
theorem dX7_above_37 : decode cX7_above 37 = .ok (.bipush 64, 2) := by decide +kernel
theorem dX7_above_39 : decode cX7_above 39 = .ok (.if_icmp .ge 54, 3) := by decide +kernel
theorem dX7_above_42 : decode cX7_above 42 = .ok (.iload 4, 2) := by decide +kernel
theorem dX7_above_44 : decode cX7_above 44 = .ok (.aload_n 0, 1) := by decide +kernel
theorem dX7_above_45 : decode cX7_above 45 = .ok (.iload 5, 2) := by decide +kernel
theorem dX7_above_47 : decode cX7_above 47 = .ok (.bipush 8, 2) := by decide +kernel
theorem dX7_above_49 : decode cX7_above 49 = .ok (.idiv, 1) := by decide +kernel
theorem dX7_above_50 : decode cX7_above 50 = .ok (.iload 5, 2) := by decide +kernel
theorem dX7_above_52 : decode cX7_above 52 = .ok (.bipush 8, 2) := by decide +kernel
theorem dX7_above_54 : decode cX7_above 54 = .ok (.irem, 1) := by decide +kernel
theorem dX7_above_55 : decode cX7_above 55 = .ok (.iload_n 1, 1) := by decide +kernel
theorem dX7_above_56 : decode cX7_above 56 = .ok (.iload_n 2, 1) := by decide +kernel
theorem dX7_above_57 : decode cX7_above 57 = .ok (.invokevirtual 94, 3) := by decide +kernel
theorem dX7_above_60 : decode cX7_above 60 = .ok (.ifCond .eq 23, 3) := by decide +kernel
theorem dX7_above_63 : decode cX7_above 63 = .ok (.aload_n 0, 1) := by decide +kernel
theorem dX7_above_64 : decode cX7_above 64 = .ok (.iload 5, 2) := by decide +kernel
theorem dX7_above_66 : decode cX7_above 66 = .ok (.bipush 8, 2) := by decide +kernel
theorem dX7_above_68 : decode cX7_above 68 = .ok (.idiv, 1) := by decide +kernel
theorem dX7_above_69 : decode cX7_above 69 = .ok (.iload 5, 2) := by decide +kernel
theorem dX7_above_71 : decode cX7_above 71 = .ok (.bipush 8, 2) := by decide +kernel
theorem dX7_above_73 : decode cX7_above 73 = .ok (.irem, 1) := by decide +kernel
theorem dX7_above_74 : decode cX7_above 74 = .ok (.invokevirtual 108, 3) := by decide +kernel
theorem dX7_above_77 : decode cX7_above 77 = .ok (.bipush 100, 2) := by decide +kernel
theorem dX7_above_79 : decode cX7_above 79 = .ok (.iadd, 1) := by decide +kernel
theorem dX7_above_80 : decode cX7_above 80 = .ok (.goto 4, 3) := by decide +kernel
theorem dX7_above_83 : decode cX7_above 83 = .ok (.iconst 0, 1) := by decide +kernel
theorem dX7_above_84 : decode cX7_above 84 = .ok (.iadd, 1) := by decide +kernel
theorem dX7_above_85 : decode cX7_above 85 = .ok (.istore 4, 2) := by decide +kernel
theorem dX7_above_87 : decode cX7_above 87 = .ok (.iinc 5 1, 3) := by decide +kernel
theorem dX7_above_90 : decode cX7_above 90 = .ok (.goto (-55), 3) := by decide +kernel
theorem dX7_above_93 : decode cX7_above 93 = .ok (.iload 4, 2) := by decide +kernel
theorem dX7_above_95 : decode cX7_above 95 = .ok (.ireturn, 1) := by decide +kernel
theorem dX7_below_0 : decode cX7_below 0 = .ok (.aload_n 0, 1) := by decide +kernel
theorem dX7_below_1 : decode cX7_below 1 = .ok (.iload_n 1, 1) := by decide +kernel
theorem dX7_below_2 : decode cX7_below 2 = .ok (.iload_n 2, 1) := by decide +kernel
theorem dX7_below_3 : decode cX7_below 3 = .ok (.invokevirtual 111, 3) := by decide +kernel
theorem dX7_below_6 : decode cX7_below 6 = .ok (.ifCond .le 12, 3) := by decide +kernel
theorem dX7_below_9 : decode cX7_below 9 = .ok (.aload_n 0, 1) := by decide +kernel
theorem dX7_below_10 : decode cX7_below 10 = .ok (.iload_n 1, 1) := by decide +kernel
theorem dX7_below_11 : decode cX7_below 11 = .ok (.iload_n 2, 1) := by decide +kernel
theorem dX7_below_12 : decode cX7_below 12 = .ok (.invokevirtual 111, 3) := by decide +kernel
theorem dX7_below_15 : decode cX7_below 15 = .ok (.goto 9, 3) := by decide +kernel
theorem dX7_below_18 : decode cX7_below 18 = .ok (.aload_n 0, 1) := by decide +kernel
theorem dX7_below_19 : decode cX7_below 19 = .ok (.iload_n 1, 1) := by decide +kernel
theorem dX7_below_20 : decode cX7_below 20 = .ok (.iload_n 2, 1) := by decide +kernel
theorem dX7_below_21 : decode cX7_below 21 = .ok (.invokevirtual 114, 3) := by decide +kernel
theorem dX7_below_24 : decode cX7_below 24 = .ok (.ireturn, 1) := by decide +kernel
theorem dX7_cellGap_0 : decode cX7_cellGap 0 = .ok (.iconst 2, 1) := by decide +kernel
theorem dX7_cellGap_1 : decode cX7_cellGap 1 = .ok (.aload_n 0, 1) := by decide +kernel
theorem dX7_cellGap_2 : decode cX7_cellGap 2 = .ok (.iload_n 1, 1) := by decide +kernel
theorem dX7_cellGap_3 : decode cX7_cellGap 3 = .ok (.iload_n 2, 1) := by decide +kernel
theorem dX7_cellGap_4 : decode cX7_cellGap 4 = .ok (.invokevirtual 117, 3) := by decide +kernel
theorem dX7_cellGap_7 : decode cX7_cellGap 7 = .ok (.imul, 1) := by decide +kernel
theorem dX7_cellGap_8 : decode cX7_cellGap 8 = .ok (.aload_n 0, 1) := by decide +kernel
theorem dX7_cellGap_9 : decode cX7_cellGap 9 = .ok (.iload_n 1, 1) := by decide +kernel
theorem dX7_cellGap_10 : decode cX7_cellGap 10 = .ok (.iload_n 2, 1) := by decide +kernel
theorem dX7_cellGap_11 : decode cX7_cellGap 11 = .ok (.invokevirtual 120, 3) := by decide +kernel
theorem dX7_cellGap_14 : decode cX7_cellGap 14 = .ok (.iadd, 1) := by decide +kernel
theorem dX7_cellGap_15 : decode cX7_cellGap 15 = .ok (.iconst 2, 1) := by decide +kernel
theorem dX7_cellGap_16 : decode cX7_cellGap 16 = .ok (.aload_n 0, 1) := by decide +kernel
theorem dX7_cellGap_17 : decode cX7_cellGap 17 = .ok (.iload_n 1, 1) := by decide +kernel
theorem dX7_cellGap_18 : decode cX7_cellGap 18 = .ok (.iload_n 2, 1) := by decide +kernel
theorem dX7_cellGap_19 : decode cX7_cellGap 19 = .ok (.invokevirtual 120, 3) := by decide +kernel
theorem dX7_cellGap_22 : decode cX7_cellGap 22 = .ok (.imul, 1) := by decide +kernel
theorem dX7_cellGap_23 : decode cX7_cellGap 23 = .ok (.idiv, 1) := by decide +kernel
theorem dX7_cellGap_24 : decode cX7_cellGap 24 = .ok (.ireturn, 1) := by decide +kernel
theorem dX7_gapOf_0 : decode cX7_gapOf 0 = .ok (.aload_n 0, 1) := by decide +kernel
theorem dX7_gapOf_1 : decode cX7_gapOf 1 = .ok (.iload_n 1, 1) := by decide +kernel
theorem dX7_gapOf_2 : decode cX7_gapOf 2 = .ok (.iload_n 2, 1) := by decide +kernel
theorem dX7_gapOf_3 : decode cX7_gapOf 3 = .ok (.invokevirtual 123, 3) := by decide +kernel
theorem dX7_gapOf_6 : decode cX7_gapOf 6 = .ok (.ifCond .eq 12, 3) := by decide +kernel
theorem dX7_gapOf_9 : decode cX7_gapOf 9 = .ok (.aload_n 0, 1) := by decide +kernel
theorem dX7_gapOf_10 : decode cX7_gapOf 10 = .ok (.iload_n 1, 1) := by decide +kernel
theorem dX7_gapOf_11 : decode cX7_gapOf 11 = .ok (.iload_n 2, 1) := by decide +kernel
theorem dX7_gapOf_12 : decode cX7_gapOf 12 = .ok (.invokevirtual 105, 3) := by decide +kernel
theorem dX7_gapOf_15 : decode cX7_gapOf 15 = .ok (.goto 22, 3) := by decide +kernel
theorem dX7_gapOf_18 : decode cX7_gapOf 18 = .ok (.aload_n 0, 1) := by decide +kernel
theorem dX7_gapOf_19 : decode cX7_gapOf 19 = .ok (.aload_n 0, 1) := by decide +kernel
theorem dX7_gapOf_20 : decode cX7_gapOf 20 = .ok (.getfield 32, 3) := by decide +kernel
theorem dX7_gapOf_23 : decode cX7_gapOf 23 = .ok (.bipush 8, 2) := by decide +kernel
theorem dX7_gapOf_25 : decode cX7_gapOf 25 = .ok (.iload_n 1, 1) := by decide +kernel
theorem dX7_gapOf_26 : decode cX7_gapOf 26 = .ok (.iadd, 1) := by decide +kernel
theorem dX7_gapOf_27 : decode cX7_gapOf 27 = .ok (.iaload, 1) := by decide +kernel
theorem dX7_gapOf_28 : decode cX7_gapOf 28 = .ok (.aload_n 0, 1) := by decide +kernel
theorem dX7_gapOf_29 : decode cX7_gapOf 29 = .ok (.getfield 32, 3) := by decide +kernel
theorem dX7_gapOf_32 : decode cX7_gapOf 32 = .ok (.iload_n 2, 1) := by decide +kernel
theorem dX7_gapOf_33 : decode cX7_gapOf 33 = .ok (.iaload, 1) := by decide +kernel
theorem dX7_gapOf_34 : decode cX7_gapOf 34 = .ok (.invokevirtual 126, 3) := by decide +kernel
theorem dX7_gapOf_37 : decode cX7_gapOf 37 = .ok (.ireturn, 1) := by decide +kernel
theorem dX7_divisor_0 : decode cX7_divisor 0 = .ok (.iload_n 0, 1) := by decide +kernel
theorem dX7_divisor_1 : decode cX7_divisor 1 = .ok (.istore_n 2, 1) := by decide +kernel
theorem dX7_divisor_2 : decode cX7_divisor 2 = .ok (.iload_n 1, 1) := by decide +kernel
theorem dX7_divisor_3 : decode cX7_divisor 3 = .ok (.istore_n 3, 1) := by decide +kernel
theorem dX7_divisor_4 : decode cX7_divisor 4 = .ok (.iload_n 3, 1) := by decide +kernel
theorem dX7_divisor_5 : decode cX7_divisor 5 = .ok (.ifCond .eq 16, 3) := by decide +kernel
theorem dX7_divisor_8 : decode cX7_divisor 8 = .ok (.iload_n 2, 1) := by decide +kernel
theorem dX7_divisor_9 : decode cX7_divisor 9 = .ok (.iload_n 3, 1) := by decide +kernel
theorem dX7_divisor_10 : decode cX7_divisor 10 = .ok (.irem, 1) := by decide +kernel
theorem dX7_divisor_11 : decode cX7_divisor 11 = .ok (.istore 4, 2) := by decide +kernel
theorem dX7_divisor_13 : decode cX7_divisor 13 = .ok (.iload_n 3, 1) := by decide +kernel
theorem dX7_divisor_14 : decode cX7_divisor 14 = .ok (.istore_n 2, 1) := by decide +kernel
theorem dX7_divisor_15 : decode cX7_divisor 15 = .ok (.iload 4, 2) := by decide +kernel
theorem dX7_divisor_17 : decode cX7_divisor 17 = .ok (.istore_n 3, 1) := by decide +kernel
theorem dX7_divisor_18 : decode cX7_divisor 18 = .ok (.goto (-14), 3) := by decide +kernel
theorem dX7_divisor_21 : decode cX7_divisor 21 = .ok (.iload_n 2, 1) := by decide +kernel
theorem dX7_divisor_22 : decode cX7_divisor 22 = .ok (.ireturn, 1) := by decide +kernel
theorem dX7_judgedMany_0 : decode cX7_judgedMany 0 = .ok (.iconst 0, 1) := by decide +kernel
theorem dX7_judgedMany_1 : decode cX7_judgedMany 1 = .ok (.istore_n 1, 1) := by decide +kernel
theorem dX7_judgedMany_2 : decode cX7_judgedMany 2 = .ok (.iconst 0, 1) := by decide +kernel
theorem dX7_judgedMany_3 : decode cX7_judgedMany 3 = .ok (.istore_n 2, 1) := by decide +kernel
theorem dX7_judgedMany_4 : decode cX7_judgedMany 4 = .ok (.iload_n 2, 1) := by decide +kernel
theorem dX7_judgedMany_5 : decode cX7_judgedMany 5 = .ok (.bipush 64, 2) := by decide +kernel
theorem dX7_judgedMany_7 : decode cX7_judgedMany 7 = .ok (.if_icmp .ge 29, 3) := by decide +kernel
theorem dX7_judgedMany_10 : decode cX7_judgedMany 10 = .ok (.iload_n 1, 1) := by decide +kernel
theorem dX7_judgedMany_11 : decode cX7_judgedMany 11 = .ok (.aload_n 0, 1) := by decide +kernel
theorem dX7_judgedMany_12 : decode cX7_judgedMany 12 = .ok (.getfield 7, 3) := by decide +kernel
theorem dX7_judgedMany_15 : decode cX7_judgedMany 15 = .ok (.bipush 94, 2) := by decide +kernel
theorem dX7_judgedMany_17 : decode cX7_judgedMany 17 = .ok (.iload_n 2, 1) := by decide +kernel
theorem dX7_judgedMany_18 : decode cX7_judgedMany 18 = .ok (.iadd, 1) := by decide +kernel
theorem dX7_judgedMany_19 : decode cX7_judgedMany 19 = .ok (.iaload, 1) := by decide +kernel
theorem dX7_judgedMany_20 : decode cX7_judgedMany 20 = .ok (.ifCond .le 7, 3) := by decide +kernel
theorem dX7_judgedMany_23 : decode cX7_judgedMany 23 = .ok (.iconst 1, 1) := by decide +kernel
theorem dX7_judgedMany_24 : decode cX7_judgedMany 24 = .ok (.goto 4, 3) := by decide +kernel
theorem dX7_judgedMany_27 : decode cX7_judgedMany 27 = .ok (.iconst 0, 1) := by decide +kernel
theorem dX7_judgedMany_28 : decode cX7_judgedMany 28 = .ok (.iadd, 1) := by decide +kernel
theorem dX7_judgedMany_29 : decode cX7_judgedMany 29 = .ok (.istore_n 1, 1) := by decide +kernel
theorem dX7_judgedMany_30 : decode cX7_judgedMany 30 = .ok (.iinc 2 1, 3) := by decide +kernel
theorem dX7_judgedMany_33 : decode cX7_judgedMany 33 = .ok (.goto (-29), 3) := by decide +kernel
theorem dX7_judgedMany_36 : decode cX7_judgedMany 36 = .ok (.iload_n 1, 1) := by decide +kernel
theorem dX7_judgedMany_37 : decode cX7_judgedMany 37 = .ok (.ireturn, 1) := by decide +kernel
theorem dX7_strangeMany_0 : decode cX7_strangeMany 0 = .ok (.iconst 0, 1) := by decide +kernel
theorem dX7_strangeMany_1 : decode cX7_strangeMany 1 = .ok (.istore_n 1, 1) := by decide +kernel
theorem dX7_strangeMany_2 : decode cX7_strangeMany 2 = .ok (.iconst 0, 1) := by decide +kernel
theorem dX7_strangeMany_3 : decode cX7_strangeMany 3 = .ok (.istore_n 2, 1) := by decide +kernel
theorem dX7_strangeMany_4 : decode cX7_strangeMany 4 = .ok (.iload_n 2, 1) := by decide +kernel
theorem dX7_strangeMany_5 : decode cX7_strangeMany 5 = .ok (.bipush 64, 2) := by decide +kernel
theorem dX7_strangeMany_7 : decode cX7_strangeMany 7 = .ok (.if_icmp .ge 44, 3) := by decide +kernel
theorem dX7_strangeMany_10 : decode cX7_strangeMany 10 = .ok (.iload_n 1, 1) := by decide +kernel
theorem dX7_strangeMany_11 : decode cX7_strangeMany 11 = .ok (.aload_n 0, 1) := by decide +kernel
theorem dX7_strangeMany_12 : decode cX7_strangeMany 12 = .ok (.getfield 7, 3) := by decide +kernel
theorem dX7_strangeMany_15 : decode cX7_strangeMany 15 = .ok (.bipush 94, 2) := by decide +kernel
theorem dX7_strangeMany_17 : decode cX7_strangeMany 17 = .ok (.iload_n 2, 1) := by decide +kernel
theorem dX7_strangeMany_18 : decode cX7_strangeMany 18 = .ok (.iadd, 1) := by decide +kernel
theorem dX7_strangeMany_19 : decode cX7_strangeMany 19 = .ok (.iaload, 1) := by decide +kernel
theorem dX7_strangeMany_20 : decode cX7_strangeMany 20 = .ok (.ifCond .le 22, 3) := by decide +kernel
theorem dX7_strangeMany_23 : decode cX7_strangeMany 23 = .ok (.aload_n 0, 1) := by decide +kernel
theorem dX7_strangeMany_24 : decode cX7_strangeMany 24 = .ok (.iload_n 2, 1) := by decide +kernel
theorem dX7_strangeMany_25 : decode cX7_strangeMany 25 = .ok (.bipush 8, 2) := by decide +kernel
theorem dX7_strangeMany_27 : decode cX7_strangeMany 27 = .ok (.idiv, 1) := by decide +kernel
theorem dX7_strangeMany_28 : decode cX7_strangeMany 28 = .ok (.iload_n 2, 1) := by decide +kernel
theorem dX7_strangeMany_29 : decode cX7_strangeMany 29 = .ok (.bipush 8, 2) := by decide +kernel
theorem dX7_strangeMany_31 : decode cX7_strangeMany 31 = .ok (.irem, 1) := by decide +kernel
theorem dX7_strangeMany_32 : decode cX7_strangeMany 32 = .ok (.invokevirtual 123, 3) := by decide +kernel
theorem dX7_strangeMany_35 : decode cX7_strangeMany 35 = .ok (.ifCond .eq 7, 3) := by decide +kernel
theorem dX7_strangeMany_38 : decode cX7_strangeMany 38 = .ok (.iconst 1, 1) := by decide +kernel
theorem dX7_strangeMany_39 : decode cX7_strangeMany 39 = .ok (.goto 4, 3) := by decide +kernel
theorem dX7_strangeMany_42 : decode cX7_strangeMany 42 = .ok (.iconst 0, 1) := by decide +kernel
theorem dX7_strangeMany_43 : decode cX7_strangeMany 43 = .ok (.iadd, 1) := by decide +kernel
theorem dX7_strangeMany_44 : decode cX7_strangeMany 44 = .ok (.istore_n 1, 1) := by decide +kernel
theorem dX7_strangeMany_45 : decode cX7_strangeMany 45 = .ok (.iinc 2 1, 3) := by decide +kernel
theorem dX7_strangeMany_48 : decode cX7_strangeMany 48 = .ok (.goto (-44), 3) := by decide +kernel
theorem dX7_strangeMany_51 : decode cX7_strangeMany 51 = .ok (.iload_n 1, 1) := by decide +kernel
theorem dX7_strangeMany_52 : decode cX7_strangeMany 52 = .ok (.ireturn, 1) := by decide +kernel
theorem dX7_misses_0 : decode cX7_misses 0 = .ok (.iconst 0, 1) := by decide +kernel
theorem dX7_misses_1 : decode cX7_misses 1 = .ok (.istore_n 1, 1) := by decide +kernel
theorem dX7_misses_2 : decode cX7_misses 2 = .ok (.iconst 0, 1) := by decide +kernel
theorem dX7_misses_3 : decode cX7_misses 3 = .ok (.istore_n 2, 1) := by decide +kernel
theorem dX7_misses_4 : decode cX7_misses 4 = .ok (.iload_n 2, 1) := by decide +kernel
theorem dX7_misses_5 : decode cX7_misses 5 = .ok (.bipush 64, 2) := by decide +kernel
theorem dX7_misses_7 : decode cX7_misses 7 = .ok (.if_icmp .ge 57, 3) := by decide +kernel
theorem dX7_misses_10 : decode cX7_misses 10 = .ok (.aload_n 0, 1) := by decide +kernel
theorem dX7_misses_11 : decode cX7_misses 11 = .ok (.getfield 7, 3) := by decide +kernel
theorem dX7_misses_14 : decode cX7_misses 14 = .ok (.bipush 94, 2) := by decide +kernel
theorem dX7_misses_16 : decode cX7_misses 16 = .ok (.iload_n 2, 1) := by decide +kernel
theorem dX7_misses_17 : decode cX7_misses 17 = .ok (.iadd, 1) := by decide +kernel
theorem dX7_misses_18 : decode cX7_misses 18 = .ok (.iaload, 1) := by decide +kernel
theorem dX7_misses_19 : decode cX7_misses 19 = .ok (.ifCond .le 39, 3) := by decide +kernel
theorem dX7_misses_22 : decode cX7_misses 22 = .ok (.aload_n 0, 1) := by decide +kernel
theorem dX7_misses_23 : decode cX7_misses 23 = .ok (.getfield 7, 3) := by decide +kernel
theorem dX7_misses_26 : decode cX7_misses 26 = .ok (.bipush 94, 2) := by decide +kernel
theorem dX7_misses_28 : decode cX7_misses 28 = .ok (.iload_n 2, 1) := by decide +kernel
theorem dX7_misses_29 : decode cX7_misses 29 = .ok (.iadd, 1) := by decide +kernel
theorem dX7_misses_30 : decode cX7_misses 30 = .ok (.iaload, 1) := by decide +kernel
theorem dX7_misses_31 : decode cX7_misses 31 = .ok (.aload_n 0, 1) := by decide +kernel
theorem dX7_misses_32 : decode cX7_misses 32 = .ok (.iload_n 2, 1) := by decide +kernel
theorem dX7_misses_33 : decode cX7_misses 33 = .ok (.bipush 8, 2) := by decide +kernel
theorem dX7_misses_35 : decode cX7_misses 35 = .ok (.idiv, 1) := by decide +kernel
theorem dX7_misses_36 : decode cX7_misses 36 = .ok (.iload_n 2, 1) := by decide +kernel
theorem dX7_misses_37 : decode cX7_misses 37 = .ok (.bipush 8, 2) := by decide +kernel
theorem dX7_misses_39 : decode cX7_misses 39 = .ok (.irem, 1) := by decide +kernel
theorem dX7_misses_40 : decode cX7_misses 40 = .ok (.invokevirtual 129, 3) := by decide +kernel
theorem dX7_misses_43 : decode cX7_misses 43 = .ok (.isub, 1) := by decide +kernel
theorem dX7_misses_44 : decode cX7_misses 44 = .ok (.istore_n 3, 1) := by decide +kernel
theorem dX7_misses_45 : decode cX7_misses 45 = .ok (.iload_n 1, 1) := by decide +kernel
theorem dX7_misses_46 : decode cX7_misses 46 = .ok (.iload_n 3, 1) := by decide +kernel
theorem dX7_misses_47 : decode cX7_misses 47 = .ok (.ifCond .ge 8, 3) := by decide +kernel
theorem dX7_misses_50 : decode cX7_misses 50 = .ok (.iload_n 3, 1) := by decide +kernel
theorem dX7_misses_51 : decode cX7_misses 51 = .ok (.ineg, 1) := by decide +kernel
theorem dX7_misses_52 : decode cX7_misses 52 = .ok (.goto 4, 3) := by decide +kernel
theorem dX7_misses_55 : decode cX7_misses 55 = .ok (.iload_n 3, 1) := by decide +kernel
theorem dX7_misses_56 : decode cX7_misses 56 = .ok (.iadd, 1) := by decide +kernel
theorem dX7_misses_57 : decode cX7_misses 57 = .ok (.istore_n 1, 1) := by decide +kernel
theorem dX7_misses_58 : decode cX7_misses 58 = .ok (.iinc 2 1, 3) := by decide +kernel
theorem dX7_misses_61 : decode cX7_misses 61 = .ok (.goto (-57), 3) := by decide +kernel
theorem dX7_misses_64 : decode cX7_misses 64 = .ok (.iload_n 1, 1) := by decide +kernel
theorem dX7_misses_65 : decode cX7_misses 65 = .ok (.ireturn, 1) := by decide +kernel
theorem dX7_here_0 : decode cX7_here 0 = .ok (.aload_n 0, 1) := by decide +kernel
theorem dX7_here_1 : decode cX7_here 1 = .ok (.getfield 132, 3) := by decide +kernel
theorem dX7_here_4 : decode cX7_here 4 = .ok (.aload_n 0, 1) := by decide +kernel
theorem dX7_here_5 : decode cX7_here 5 = .ok (.getfield 135, 3) := by decide +kernel
theorem dX7_here_8 : decode cX7_here 8 = .ok (.if_icmp .ge 15, 3) := by decide +kernel
theorem dX7_here_11 : decode cX7_here 11 = .ok (.aload_n 0, 1) := by decide +kernel
theorem dX7_here_12 : decode cX7_here 12 = .ok (.getfield 16, 3) := by decide +kernel
theorem dX7_here_15 : decode cX7_here 15 = .ok (.aload_n 0, 1) := by decide +kernel
theorem dX7_here_16 : decode cX7_here 16 = .ok (.getfield 132, 3) := by decide +kernel
theorem dX7_here_19 : decode cX7_here 19 = .ok (.iaload, 1) := by decide +kernel
theorem dX7_here_20 : decode cX7_here 20 = .ok (.goto 4, 3) := by decide +kernel
theorem dX7_here_23 : decode cX7_here 23 = .ok (.iconst (-1), 1) := by decide +kernel
theorem dX7_here_24 : decode cX7_here 24 = .ok (.ireturn, 1) := by decide +kernel
theorem dX7_fail_0 : decode cX7_fail 0 = .ok (.aload_n 0, 1) := by decide +kernel
theorem dX7_fail_1 : decode cX7_fail 1 = .ok (.getfield 138, 3) := by decide +kernel
theorem dX7_fail_4 : decode cX7_fail 4 = .ok (.ifCond .ne 13, 3) := by decide +kernel
theorem dX7_fail_7 : decode cX7_fail 7 = .ok (.aload_n 0, 1) := by decide +kernel
theorem dX7_fail_8 : decode cX7_fail 8 = .ok (.iload_n 1, 1) := by decide +kernel
theorem dX7_fail_9 : decode cX7_fail 9 = .ok (.putfield 138, 3) := by decide +kernel
theorem dX7_fail_12 : decode cX7_fail 12 = .ok (.aload_n 0, 1) := by decide +kernel
theorem dX7_fail_13 : decode cX7_fail 13 = .ok (.iload_n 2, 1) := by decide +kernel
theorem dX7_fail_14 : decode cX7_fail 14 = .ok (.putfield 19, 3) := by decide +kernel
theorem dX7_fail_17 : decode cX7_fail 17 = .ok (.return_, 1) := by decide +kernel
theorem dX7_skip_0 : decode cX7_skip 0 = .ok (.aload_n 0, 1) := by decide +kernel
theorem dX7_skip_1 : decode cX7_skip 1 = .ok (.invokevirtual 141, 3) := by decide +kernel
theorem dX7_skip_4 : decode cX7_skip 4 = .ok (.bipush 32, 2) := by decide +kernel
theorem dX7_skip_6 : decode cX7_skip 6 = .ok (.if_icmp .ne 16, 3) := by decide +kernel
theorem dX7_skip_9 : decode cX7_skip 9 = .ok (.aload_n 0, 1) := by decide +kernel
theorem dX7_skip_10 : decode cX7_skip 10 = .ok (.dup, 1) := by decide +kernel
theorem dX7_skip_11 : decode cX7_skip 11 = .ok (.getfield 132, 3) := by decide +kernel
theorem dX7_skip_14 : decode cX7_skip 14 = .ok (.iconst 1, 1) := by decide +kernel
theorem dX7_skip_15 : decode cX7_skip 15 = .ok (.iadd, 1) := by decide +kernel
theorem dX7_skip_16 : decode cX7_skip 16 = .ok (.putfield 132, 3) := by decide +kernel
theorem dX7_skip_19 : decode cX7_skip 19 = .ok (.goto (-19), 3) := by decide +kernel
theorem dX7_skip_22 : decode cX7_skip 22 = .ok (.return_, 1) := by decide +kernel
theorem dX7_isFigure_0 : decode cX7_isFigure 0 = .ok (.iload_n 0, 1) := by decide +kernel
theorem dX7_isFigure_1 : decode cX7_isFigure 1 = .ok (.i2l, 1) := by decide +kernel
theorem dX7_isFigure_2 : decode cX7_isFigure 2 = .ok (.ldc2_w 145, 3) := by decide +kernel
theorem dX7_isFigure_5 : decode cX7_isFigure 5 = .ok (.ldc2_w 147, 3) := by decide +kernel
theorem dX7_isFigure_8 : decode cX7_isFigure 8 = .ok (.invokestatic 53, 3) := by decide +kernel
theorem dX7_isFigure_11 : decode cX7_isFigure 11 = .ok (.ireturn, 1) := by decide +kernel
theorem dX7_isSmall_0 : decode cX7_isSmall 0 = .ok (.iload_n 0, 1) := by decide +kernel
theorem dX7_isSmall_1 : decode cX7_isSmall 1 = .ok (.i2l, 1) := by decide +kernel
theorem dX7_isSmall_2 : decode cX7_isSmall 2 = .ok (.ldc2_w 149, 3) := by decide +kernel
theorem dX7_isSmall_5 : decode cX7_isSmall 5 = .ok (.ldc2_w 151, 3) := by decide +kernel
theorem dX7_isSmall_8 : decode cX7_isSmall 8 = .ok (.invokestatic 53, 3) := by decide +kernel
theorem dX7_isSmall_11 : decode cX7_isSmall 11 = .ok (.ireturn, 1) := by decide +kernel
theorem dX7_want_0 : decode cX7_want 0 = .ok (.aload_n 0, 1) := by decide +kernel
theorem dX7_want_1 : decode cX7_want 1 = .ok (.invokevirtual 153, 3) := by decide +kernel
theorem dX7_want_4 : decode cX7_want 4 = .ok (.aload_n 0, 1) := by decide +kernel
theorem dX7_want_5 : decode cX7_want 5 = .ok (.invokevirtual 141, 3) := by decide +kernel
theorem dX7_want_8 : decode cX7_want 8 = .ok (.iload_n 1, 1) := by decide +kernel
theorem dX7_want_9 : decode cX7_want 9 = .ok (.if_icmp .eq 15, 3) := by decide +kernel
theorem dX7_want_12 : decode cX7_want 12 = .ok (.aload_n 0, 1) := by decide +kernel
theorem dX7_want_13 : decode cX7_want 13 = .ok (.iconst 1, 1) := by decide +kernel
theorem dX7_want_14 : decode cX7_want 14 = .ok (.aload_n 0, 1) := by decide +kernel
theorem dX7_want_15 : decode cX7_want 15 = .ok (.getfield 132, 3) := by decide +kernel
theorem dX7_want_18 : decode cX7_want 18 = .ok (.invokevirtual 156, 3) := by decide +kernel
theorem dX7_want_21 : decode cX7_want 21 = .ok (.goto 13, 3) := by decide +kernel
theorem dX7_want_24 : decode cX7_want 24 = .ok (.aload_n 0, 1) := by decide +kernel
theorem dX7_want_25 : decode cX7_want 25 = .ok (.dup, 1) := by decide +kernel
theorem dX7_want_26 : decode cX7_want 26 = .ok (.getfield 132, 3) := by decide +kernel
theorem dX7_want_29 : decode cX7_want 29 = .ok (.iconst 1, 1) := by decide +kernel
theorem dX7_want_30 : decode cX7_want 30 = .ok (.iadd, 1) := by decide +kernel
theorem dX7_want_31 : decode cX7_want 31 = .ok (.putfield 132, 3) := by decide +kernel
theorem dX7_want_34 : decode cX7_want 34 = .ok (.return_, 1) := by decide +kernel
theorem dX7_figure_0 : decode cX7_figure 0 = .ok (.aload_n 0, 1) := by decide +kernel
theorem dX7_figure_1 : decode cX7_figure 1 = .ok (.invokevirtual 141, 3) := by decide +kernel
theorem dX7_figure_4 : decode cX7_figure 4 = .ok (.bipush 48, 2) := by decide +kernel
theorem dX7_figure_6 : decode cX7_figure 6 = .ok (.isub, 1) := by decide +kernel
theorem dX7_figure_7 : decode cX7_figure 7 = .ok (.istore_n 2, 1) := by decide +kernel
theorem dX7_figure_8 : decode cX7_figure 8 = .ok (.iload_n 2, 1) := by decide +kernel
theorem dX7_figure_9 : decode cX7_figure 9 = .ok (.i2l, 1) := by decide +kernel
theorem dX7_figure_10 : decode cX7_figure 10 = .ok (.iload_n 1, 1) := by decide +kernel
theorem dX7_figure_11 : decode cX7_figure 11 = .ok (.i2l, 1) := by decide +kernel
theorem dX7_figure_12 : decode cX7_figure 12 = .ok (.ldc2_w 159, 3) := by decide +kernel
theorem dX7_figure_15 : decode cX7_figure 15 = .ok (.invokestatic 53, 3) := by decide +kernel
theorem dX7_figure_18 : decode cX7_figure 18 = .ok (.ifCond .ne 14, 3) := by decide +kernel
theorem dX7_figure_21 : decode cX7_figure 21 = .ok (.aload_n 0, 1) := by decide +kernel
theorem dX7_figure_22 : decode cX7_figure 22 = .ok (.iconst 1, 1) := by decide +kernel
theorem dX7_figure_23 : decode cX7_figure 23 = .ok (.aload_n 0, 1) := by decide +kernel
theorem dX7_figure_24 : decode cX7_figure 24 = .ok (.getfield 132, 3) := by decide +kernel
theorem dX7_figure_27 : decode cX7_figure 27 = .ok (.invokevirtual 156, 3) := by decide +kernel
theorem dX7_figure_30 : decode cX7_figure 30 = .ok (.iconst 0, 1) := by decide +kernel
theorem dX7_figure_31 : decode cX7_figure 31 = .ok (.ireturn, 1) := by decide +kernel
theorem dX7_figure_32 : decode cX7_figure 32 = .ok (.aload_n 0, 1) := by decide +kernel
theorem dX7_figure_33 : decode cX7_figure 33 = .ok (.dup, 1) := by decide +kernel
theorem dX7_figure_34 : decode cX7_figure 34 = .ok (.getfield 132, 3) := by decide +kernel
theorem dX7_figure_37 : decode cX7_figure 37 = .ok (.iconst 1, 1) := by decide +kernel
theorem dX7_figure_38 : decode cX7_figure 38 = .ok (.iadd, 1) := by decide +kernel
theorem dX7_figure_39 : decode cX7_figure 39 = .ok (.putfield 132, 3) := by decide +kernel
theorem dX7_figure_42 : decode cX7_figure 42 = .ok (.iload_n 2, 1) := by decide +kernel
theorem dX7_figure_43 : decode cX7_figure 43 = .ok (.ireturn, 1) := by decide +kernel
theorem dX7_number_0 : decode cX7_number 0 = .ok (.aload_n 0, 1) := by decide +kernel
theorem dX7_number_1 : decode cX7_number 1 = .ok (.invokevirtual 153, 3) := by decide +kernel
theorem dX7_number_4 : decode cX7_number 4 = .ok (.aload_n 0, 1) := by decide +kernel
theorem dX7_number_5 : decode cX7_number 5 = .ok (.getfield 132, 3) := by decide +kernel
theorem dX7_number_8 : decode cX7_number 8 = .ok (.istore_n 3, 1) := by decide +kernel
theorem dX7_number_9 : decode cX7_number 9 = .ok (.aload_n 0, 1) := by decide +kernel
theorem dX7_number_10 : decode cX7_number 10 = .ok (.iconst 0, 1) := by decide +kernel
theorem dX7_number_11 : decode cX7_number 11 = .ok (.invokevirtual 161, 3) := by decide +kernel
theorem dX7_number_14 : decode cX7_number 14 = .ok (.istore 4, 2) := by decide +kernel
theorem dX7_number_16 : decode cX7_number 16 = .ok (.aload_n 0, 1) := by decide +kernel
theorem dX7_number_17 : decode cX7_number 17 = .ok (.getfield 138, 3) := by decide +kernel
theorem dX7_number_20 : decode cX7_number 20 = .ok (.ifCond .ne 38, 3) := by decide +kernel
theorem dX7_number_23 : decode cX7_number 23 = .ok (.aload_n 0, 1) := by decide +kernel
theorem dX7_number_24 : decode cX7_number 24 = .ok (.invokevirtual 141, 3) := by decide +kernel
theorem dX7_number_27 : decode cX7_number 27 = .ok (.invokestatic 164, 3) := by decide +kernel
theorem dX7_number_30 : decode cX7_number 30 = .ok (.ifCond .eq 28, 3) := by decide +kernel
theorem dX7_number_33 : decode cX7_number 33 = .ok (.bipush 10, 2) := by decide +kernel
theorem dX7_number_35 : decode cX7_number 35 = .ok (.iload 4, 2) := by decide +kernel
theorem dX7_number_37 : decode cX7_number 37 = .ok (.imul, 1) := by decide +kernel
theorem dX7_number_38 : decode cX7_number 38 = .ok (.aload_n 0, 1) := by decide +kernel
theorem dX7_number_39 : decode cX7_number 39 = .ok (.invokevirtual 141, 3) := by decide +kernel
theorem dX7_number_42 : decode cX7_number 42 = .ok (.iadd, 1) := by decide +kernel
theorem dX7_number_43 : decode cX7_number 43 = .ok (.bipush 48, 2) := by decide +kernel
theorem dX7_number_45 : decode cX7_number 45 = .ok (.isub, 1) := by decide +kernel
theorem dX7_number_46 : decode cX7_number 46 = .ok (.istore 4, 2) := by decide +kernel
theorem dX7_number_48 : decode cX7_number 48 = .ok (.aload_n 0, 1) := by decide +kernel
theorem dX7_number_49 : decode cX7_number 49 = .ok (.dup, 1) := by decide +kernel
theorem dX7_number_50 : decode cX7_number 50 = .ok (.getfield 132, 3) := by decide +kernel
theorem dX7_number_53 : decode cX7_number 53 = .ok (.iconst 1, 1) := by decide +kernel
theorem dX7_number_54 : decode cX7_number 54 = .ok (.iadd, 1) := by decide +kernel
theorem dX7_number_55 : decode cX7_number 55 = .ok (.putfield 132, 3) := by decide +kernel
theorem dX7_number_58 : decode cX7_number 58 = .ok (.aload_n 0, 1) := by decide +kernel
theorem dX7_number_59 : decode cX7_number 59 = .ok (.getfield 138, 3) := by decide +kernel
theorem dX7_number_62 : decode cX7_number 62 = .ok (.ifCond .ne 32, 3) := by decide +kernel
theorem dX7_number_65 : decode cX7_number 65 = .ok (.aload_n 0, 1) := by decide +kernel
theorem dX7_number_66 : decode cX7_number 66 = .ok (.invokevirtual 141, 3) := by decide +kernel
theorem dX7_number_69 : decode cX7_number 69 = .ok (.invokestatic 164, 3) := by decide +kernel
theorem dX7_number_72 : decode cX7_number 72 = .ok (.ifCond .ne 16, 3) := by decide +kernel
theorem dX7_number_75 : decode cX7_number 75 = .ok (.iload 4, 2) := by decide +kernel
theorem dX7_number_77 : decode cX7_number 77 = .ok (.i2l, 1) := by decide +kernel
theorem dX7_number_78 : decode cX7_number 78 = .ok (.iload_n 1, 1) := by decide +kernel
theorem dX7_number_79 : decode cX7_number 79 = .ok (.i2l, 1) := by decide +kernel
theorem dX7_number_80 : decode cX7_number 80 = .ok (.iload_n 2, 1) := by decide +kernel
theorem dX7_number_81 : decode cX7_number 81 = .ok (.i2l, 1) := by decide +kernel
theorem dX7_number_82 : decode cX7_number 82 = .ok (.invokestatic 53, 3) := by decide +kernel
theorem dX7_number_85 : decode cX7_number 85 = .ok (.ifCond .ne 9, 3) := by decide +kernel
theorem dX7_number_88 : decode cX7_number 88 = .ok (.aload_n 0, 1) := by decide +kernel
theorem dX7_number_89 : decode cX7_number 89 = .ok (.iconst 2, 1) := by decide +kernel
theorem dX7_number_90 : decode cX7_number 90 = .ok (.iload_n 3, 1) := by decide +kernel
theorem dX7_number_91 : decode cX7_number 91 = .ok (.invokevirtual 156, 3) := by decide +kernel
theorem dX7_number_94 : decode cX7_number 94 = .ok (.iload 4, 2) := by decide +kernel
theorem dX7_number_96 : decode cX7_number 96 = .ok (.ireturn, 1) := by decide +kernel
theorem dX7_readEdge_0 : decode cX7_readEdge 0 = .ok (.aload_n 0, 1) := by decide +kernel
theorem dX7_readEdge_1 : decode cX7_readEdge 1 = .ok (.invokevirtual 153, 3) := by decide +kernel
theorem dX7_readEdge_4 : decode cX7_readEdge 4 = .ok (.iconst 0, 1) := by decide +kernel
theorem dX7_readEdge_5 : decode cX7_readEdge 5 = .ok (.istore_n 3, 1) := by decide +kernel
theorem dX7_readEdge_6 : decode cX7_readEdge 6 = .ok (.iload_n 3, 1) := by decide +kernel
theorem dX7_readEdge_7 : decode cX7_readEdge 7 = .ok (.iconst 5, 1) := by decide +kernel
theorem dX7_readEdge_8 : decode cX7_readEdge 8 = .ok (.if_icmp .ge 39, 3) := by decide +kernel
theorem dX7_readEdge_11 : decode cX7_readEdge 11 = .ok (.aload_n 0, 1) := by decide +kernel
theorem dX7_readEdge_12 : decode cX7_readEdge 12 = .ok (.getfield 138, 3) := by decide +kernel
theorem dX7_readEdge_15 : decode cX7_readEdge 15 = .ok (.ifCond .ne 32, 3) := by decide +kernel
theorem dX7_readEdge_18 : decode cX7_readEdge 18 = .ok (.aload_n 0, 1) := by decide +kernel
theorem dX7_readEdge_19 : decode cX7_readEdge 19 = .ok (.getfield 7, 3) := by decide +kernel
theorem dX7_readEdge_22 : decode cX7_readEdge 22 = .ok (.bipush 6, 2) := by decide +kernel
theorem dX7_readEdge_24 : decode cX7_readEdge 24 = .ok (.bipush 40, 2) := by decide +kernel
theorem dX7_readEdge_26 : decode cX7_readEdge 26 = .ok (.iload_n 2, 1) := by decide +kernel
theorem dX7_readEdge_27 : decode cX7_readEdge 27 = .ok (.imul, 1) := by decide +kernel
theorem dX7_readEdge_28 : decode cX7_readEdge 28 = .ok (.iadd, 1) := by decide +kernel
theorem dX7_readEdge_29 : decode cX7_readEdge 29 = .ok (.iconst 5, 1) := by decide +kernel
theorem dX7_readEdge_30 : decode cX7_readEdge 30 = .ok (.iload_n 1, 1) := by decide +kernel
theorem dX7_readEdge_31 : decode cX7_readEdge 31 = .ok (.imul, 1) := by decide +kernel
theorem dX7_readEdge_32 : decode cX7_readEdge 32 = .ok (.iadd, 1) := by decide +kernel
theorem dX7_readEdge_33 : decode cX7_readEdge 33 = .ok (.iload_n 3, 1) := by decide +kernel
theorem dX7_readEdge_34 : decode cX7_readEdge 34 = .ok (.iadd, 1) := by decide +kernel
theorem dX7_readEdge_35 : decode cX7_readEdge 35 = .ok (.aload_n 0, 1) := by decide +kernel
theorem dX7_readEdge_36 : decode cX7_readEdge 36 = .ok (.iconst 0, 1) := by decide +kernel
theorem dX7_readEdge_37 : decode cX7_readEdge 37 = .ok (.invokevirtual 161, 3) := by decide +kernel
theorem dX7_readEdge_40 : decode cX7_readEdge 40 = .ok (.iastore, 1) := by decide +kernel
theorem dX7_readEdge_41 : decode cX7_readEdge 41 = .ok (.iinc 3 1, 3) := by decide +kernel
theorem dX7_readEdge_44 : decode cX7_readEdge 44 = .ok (.goto (-38), 3) := by decide +kernel
theorem dX7_readEdge_47 : decode cX7_readEdge 47 = .ok (.return_, 1) := by decide +kernel
theorem dX7_letterClause_0 : decode cX7_letterClause 0 = .ok (.aload_n 0, 1) := by decide +kernel
theorem dX7_letterClause_1 : decode cX7_letterClause 1 = .ok (.iload_n 1, 1) := by decide +kernel
theorem dX7_letterClause_2 : decode cX7_letterClause 2 = .ok (.iconst 0, 1) := by decide +kernel
theorem dX7_letterClause_3 : decode cX7_letterClause 3 = .ok (.invokevirtual 167, 3) := by decide +kernel
theorem dX7_letterClause_6 : decode cX7_letterClause 6 = .ok (.aload_n 0, 1) := by decide +kernel
theorem dX7_letterClause_7 : decode cX7_letterClause 7 = .ok (.bipush 47, 2) := by decide +kernel
theorem dX7_letterClause_9 : decode cX7_letterClause 9 = .ok (.invokevirtual 170, 3) := by decide +kernel
theorem dX7_letterClause_12 : decode cX7_letterClause 12 = .ok (.aload_n 0, 1) := by decide +kernel
theorem dX7_letterClause_13 : decode cX7_letterClause 13 = .ok (.getfield 138, 3) := by decide +kernel
theorem dX7_letterClause_16 : decode cX7_letterClause 16 = .ok (.ifCond .ne 19, 3) := by decide +kernel
theorem dX7_letterClause_19 : decode cX7_letterClause 19 = .ok (.aload_n 0, 1) := by decide +kernel
theorem dX7_letterClause_20 : decode cX7_letterClause 20 = .ok (.iload_n 1, 1) := by decide +kernel
theorem dX7_letterClause_21 : decode cX7_letterClause 21 = .ok (.iconst 1, 1) := by decide +kernel
theorem dX7_letterClause_22 : decode cX7_letterClause 22 = .ok (.invokevirtual 167, 3) := by decide +kernel
theorem dX7_letterClause_25 : decode cX7_letterClause 25 = .ok (.aload_n 0, 1) := by decide +kernel
theorem dX7_letterClause_26 : decode cX7_letterClause 26 = .ok (.bipush 44, 2) := by decide +kernel
theorem dX7_letterClause_28 : decode cX7_letterClause 28 = .ok (.invokevirtual 170, 3) := by decide +kernel
theorem dX7_letterClause_31 : decode cX7_letterClause 31 = .ok (.aload_n 0, 1) := by decide +kernel
theorem dX7_letterClause_32 : decode cX7_letterClause 32 = .ok (.invokevirtual 153, 3) := by decide +kernel
theorem dX7_letterClause_35 : decode cX7_letterClause 35 = .ok (.aload_n 0, 1) := by decide +kernel
theorem dX7_letterClause_36 : decode cX7_letterClause 36 = .ok (.getfield 138, 3) := by decide +kernel
theorem dX7_letterClause_39 : decode cX7_letterClause 39 = .ok (.ifCond .ne 29, 3) := by decide +kernel
theorem dX7_letterClause_42 : decode cX7_letterClause 42 = .ok (.aload_n 0, 1) := by decide +kernel
theorem dX7_letterClause_43 : decode cX7_letterClause 43 = .ok (.getfield 7, 3) := by decide +kernel
theorem dX7_letterClause_46 : decode cX7_letterClause 46 = .ok (.bipush 86, 2) := by decide +kernel
theorem dX7_letterClause_48 : decode cX7_letterClause 48 = .ok (.iload_n 1, 1) := by decide +kernel
theorem dX7_letterClause_49 : decode cX7_letterClause 49 = .ok (.iadd, 1) := by decide +kernel
theorem dX7_letterClause_50 : decode cX7_letterClause 50 = .ok (.aload_n 0, 1) := by decide +kernel
theorem dX7_letterClause_51 : decode cX7_letterClause 51 = .ok (.iconst 1, 1) := by decide +kernel
theorem dX7_letterClause_52 : decode cX7_letterClause 52 = .ok (.invokevirtual 161, 3) := by decide +kernel
theorem dX7_letterClause_55 : decode cX7_letterClause 55 = .ok (.iastore, 1) := by decide +kernel
theorem dX7_letterClause_56 : decode cX7_letterClause 56 = .ok (.aload_n 0, 1) := by decide +kernel
theorem dX7_letterClause_57 : decode cX7_letterClause 57 = .ok (.getfield 7, 3) := by decide +kernel
theorem dX7_letterClause_60 : decode cX7_letterClause 60 = .ok (.iconst 0, 1) := by decide +kernel
theorem dX7_letterClause_61 : decode cX7_letterClause 61 = .ok (.dup2, 1) := by decide +kernel
theorem dX7_letterClause_62 : decode cX7_letterClause 62 = .ok (.iaload, 1) := by decide +kernel
theorem dX7_letterClause_63 : decode cX7_letterClause 63 = .ok (.iconst 1, 1) := by decide +kernel
theorem dX7_letterClause_64 : decode cX7_letterClause 64 = .ok (.iload_n 1, 1) := by decide +kernel
theorem dX7_letterClause_65 : decode cX7_letterClause 65 = .ok (.ishl, 1) := by decide +kernel
theorem dX7_letterClause_66 : decode cX7_letterClause 66 = .ok (.ior, 1) := by decide +kernel
theorem dX7_letterClause_67 : decode cX7_letterClause 67 = .ok (.iastore, 1) := by decide +kernel
theorem dX7_letterClause_68 : decode cX7_letterClause 68 = .ok (.return_, 1) := by decide +kernel
theorem dX7_pairClause_0 : decode cX7_pairClause 0 = .ok (.aload_n 0, 1) := by decide +kernel
theorem dX7_pairClause_1 : decode cX7_pairClause 1 = .ok (.iload_n 1, 1) := by decide +kernel
theorem dX7_pairClause_2 : decode cX7_pairClause 2 = .ok (.invokevirtual 69, 3) := by decide +kernel
theorem dX7_pairClause_5 : decode cX7_pairClause 5 = .ok (.ifCond .eq 11, 3) := by decide +kernel
theorem dX7_pairClause_8 : decode cX7_pairClause 8 = .ok (.aload_n 0, 1) := by decide +kernel
theorem dX7_pairClause_9 : decode cX7_pairClause 9 = .ok (.iload_n 2, 1) := by decide +kernel
theorem dX7_pairClause_10 : decode cX7_pairClause 10 = .ok (.invokevirtual 69, 3) := by decide +kernel
theorem dX7_pairClause_13 : decode cX7_pairClause 13 = .ok (.ifCond .ne 10, 3) := by decide +kernel
theorem dX7_pairClause_16 : decode cX7_pairClause 16 = .ok (.aload_n 0, 1) := by decide +kernel
theorem dX7_pairClause_17 : decode cX7_pairClause 17 = .ok (.iconst 3, 1) := by decide +kernel
theorem dX7_pairClause_18 : decode cX7_pairClause 18 = .ok (.iload_n 3, 1) := by decide +kernel
theorem dX7_pairClause_19 : decode cX7_pairClause 19 = .ok (.invokevirtual 156, 3) := by decide +kernel
theorem dX7_pairClause_22 : decode cX7_pairClause 22 = .ok (.return_, 1) := by decide +kernel
theorem dX7_pairClause_23 : decode cX7_pairClause 23 = .ok (.aload_n 0, 1) := by decide +kernel
theorem dX7_pairClause_24 : decode cX7_pairClause 24 = .ok (.bipush 58, 2) := by decide +kernel
theorem dX7_pairClause_26 : decode cX7_pairClause 26 = .ok (.invokevirtual 170, 3) := by decide +kernel
theorem dX7_pairClause_29 : decode cX7_pairClause 29 = .ok (.aload_n 0, 1) := by decide +kernel
theorem dX7_pairClause_30 : decode cX7_pairClause 30 = .ok (.invokevirtual 153, 3) := by decide +kernel
theorem dX7_pairClause_33 : decode cX7_pairClause 33 = .ok (.iconst 1, 1) := by decide +kernel
theorem dX7_pairClause_34 : decode cX7_pairClause 34 = .ok (.istore 4, 2) := by decide +kernel
theorem dX7_pairClause_36 : decode cX7_pairClause 36 = .ok (.aload_n 0, 1) := by decide +kernel
theorem dX7_pairClause_37 : decode cX7_pairClause 37 = .ok (.getfield 138, 3) := by decide +kernel
theorem dX7_pairClause_40 : decode cX7_pairClause 40 = .ok (.ifCond .ne 25, 3) := by decide +kernel
theorem dX7_pairClause_43 : decode cX7_pairClause 43 = .ok (.aload_n 0, 1) := by decide +kernel
theorem dX7_pairClause_44 : decode cX7_pairClause 44 = .ok (.invokevirtual 141, 3) := by decide +kernel
theorem dX7_pairClause_47 : decode cX7_pairClause 47 = .ok (.bipush 45, 2) := by decide +kernel
theorem dX7_pairClause_49 : decode cX7_pairClause 49 = .ok (.if_icmp .ne 16, 3) := by decide +kernel
theorem dX7_pairClause_52 : decode cX7_pairClause 52 = .ok (.iconst (-1), 1) := by decide +kernel
theorem dX7_pairClause_53 : decode cX7_pairClause 53 = .ok (.istore 4, 2) := by decide +kernel
theorem dX7_pairClause_55 : decode cX7_pairClause 55 = .ok (.aload_n 0, 1) := by decide +kernel
theorem dX7_pairClause_56 : decode cX7_pairClause 56 = .ok (.dup, 1) := by decide +kernel
theorem dX7_pairClause_57 : decode cX7_pairClause 57 = .ok (.getfield 132, 3) := by decide +kernel
theorem dX7_pairClause_60 : decode cX7_pairClause 60 = .ok (.iconst 1, 1) := by decide +kernel
theorem dX7_pairClause_61 : decode cX7_pairClause 61 = .ok (.iadd, 1) := by decide +kernel
theorem dX7_pairClause_62 : decode cX7_pairClause 62 = .ok (.putfield 132, 3) := by decide +kernel
theorem dX7_pairClause_65 : decode cX7_pairClause 65 = .ok (.aload_n 0, 1) := by decide +kernel
theorem dX7_pairClause_66 : decode cX7_pairClause 66 = .ok (.getfield 138, 3) := by decide +kernel
theorem dX7_pairClause_69 : decode cX7_pairClause 69 = .ok (.ifCond .ne 30, 3) := by decide +kernel
theorem dX7_pairClause_72 : decode cX7_pairClause 72 = .ok (.aload_n 0, 1) := by decide +kernel
theorem dX7_pairClause_73 : decode cX7_pairClause 73 = .ok (.getfield 7, 3) := by decide +kernel
theorem dX7_pairClause_76 : decode cX7_pairClause 76 = .ok (.bipush 94, 2) := by decide +kernel
theorem dX7_pairClause_78 : decode cX7_pairClause 78 = .ok (.bipush 8, 2) := by decide +kernel
theorem dX7_pairClause_80 : decode cX7_pairClause 80 = .ok (.iload_n 1, 1) := by decide +kernel
theorem dX7_pairClause_81 : decode cX7_pairClause 81 = .ok (.imul, 1) := by decide +kernel
theorem dX7_pairClause_82 : decode cX7_pairClause 82 = .ok (.iadd, 1) := by decide +kernel
theorem dX7_pairClause_83 : decode cX7_pairClause 83 = .ok (.iload_n 2, 1) := by decide +kernel
theorem dX7_pairClause_84 : decode cX7_pairClause 84 = .ok (.iadd, 1) := by decide +kernel
theorem dX7_pairClause_85 : decode cX7_pairClause 85 = .ok (.iload 4, 2) := by decide +kernel
theorem dX7_pairClause_87 : decode cX7_pairClause 87 = .ok (.aload_n 0, 1) := by decide +kernel
theorem dX7_pairClause_88 : decode cX7_pairClause 88 = .ok (.iconst 0, 1) := by decide +kernel
theorem dX7_pairClause_89 : decode cX7_pairClause 89 = .ok (.bipush 20, 2) := by decide +kernel
theorem dX7_pairClause_91 : decode cX7_pairClause 91 = .ok (.invokevirtual 174, 3) := by decide +kernel
theorem dX7_pairClause_94 : decode cX7_pairClause 94 = .ok (.imul, 1) := by decide +kernel
theorem dX7_pairClause_95 : decode cX7_pairClause 95 = .ok (.bipush 100, 2) := by decide +kernel
theorem dX7_pairClause_97 : decode cX7_pairClause 97 = .ok (.iadd, 1) := by decide +kernel
theorem dX7_pairClause_98 : decode cX7_pairClause 98 = .ok (.iastore, 1) := by decide +kernel
theorem dX7_pairClause_99 : decode cX7_pairClause 99 = .ok (.return_, 1) := by decide +kernel
theorem dX7_wordOf_0 : decode cX7_wordOf 0 = .ok (.lconst 0, 1) := by decide +kernel
theorem dX7_wordOf_1 : decode cX7_wordOf 1 = .ok (.lstore_n 3, 1) := by decide +kernel
theorem dX7_wordOf_2 : decode cX7_wordOf 2 = .ok (.iload_n 1, 1) := by decide +kernel
theorem dX7_wordOf_3 : decode cX7_wordOf 3 = .ok (.istore 5, 2) := by decide +kernel
theorem dX7_wordOf_5 : decode cX7_wordOf 5 = .ok (.iload 5, 2) := by decide +kernel
theorem dX7_wordOf_7 : decode cX7_wordOf 7 = .ok (.iload_n 2, 1) := by decide +kernel
theorem dX7_wordOf_8 : decode cX7_wordOf 8 = .ok (.if_icmp .ge 36, 3) := by decide +kernel
theorem dX7_wordOf_11 : decode cX7_wordOf 11 = .ok (.iload 5, 2) := by decide +kernel
theorem dX7_wordOf_13 : decode cX7_wordOf 13 = .ok (.iload_n 1, 1) := by decide +kernel
theorem dX7_wordOf_14 : decode cX7_wordOf 14 = .ok (.bipush 10, 2) := by decide +kernel
theorem dX7_wordOf_16 : decode cX7_wordOf 16 = .ok (.iadd, 1) := by decide +kernel
theorem dX7_wordOf_17 : decode cX7_wordOf 17 = .ok (.if_icmp .ge 27, 3) := by decide +kernel
theorem dX7_wordOf_20 : decode cX7_wordOf 20 = .ok (.ldc2_w 177, 3) := by decide +kernel
theorem dX7_wordOf_23 : decode cX7_wordOf 23 = .ok (.lload_n 3, 1) := by decide +kernel
theorem dX7_wordOf_24 : decode cX7_wordOf 24 = .ok (.lmul, 1) := by decide +kernel
theorem dX7_wordOf_25 : decode cX7_wordOf 25 = .ok (.aload_n 0, 1) := by decide +kernel
theorem dX7_wordOf_26 : decode cX7_wordOf 26 = .ok (.iload 5, 2) := by decide +kernel
theorem dX7_wordOf_28 : decode cX7_wordOf 28 = .ok (.iaload, 1) := by decide +kernel
theorem dX7_wordOf_29 : decode cX7_wordOf 29 = .ok (.i2l, 1) := by decide +kernel
theorem dX7_wordOf_30 : decode cX7_wordOf 30 = .ok (.ladd, 1) := by decide +kernel
theorem dX7_wordOf_31 : decode cX7_wordOf 31 = .ok (.ldc2_w 149, 3) := by decide +kernel
theorem dX7_wordOf_34 : decode cX7_wordOf 34 = .ok (.lsub, 1) := by decide +kernel
theorem dX7_wordOf_35 : decode cX7_wordOf 35 = .ok (.lconst 1, 1) := by decide +kernel
theorem dX7_wordOf_36 : decode cX7_wordOf 36 = .ok (.ladd, 1) := by decide +kernel
theorem dX7_wordOf_37 : decode cX7_wordOf 37 = .ok (.lstore_n 3, 1) := by decide +kernel
theorem dX7_wordOf_38 : decode cX7_wordOf 38 = .ok (.iinc 5 1, 3) := by decide +kernel
theorem dX7_wordOf_41 : decode cX7_wordOf 41 = .ok (.goto (-36), 3) := by decide +kernel
theorem dX7_wordOf_44 : decode cX7_wordOf 44 = .ok (.lload_n 3, 1) := by decide +kernel
theorem dX7_wordOf_45 : decode cX7_wordOf 45 = .ok (.lreturn, 1) := by decide +kernel
theorem dX7_five_0 : decode cX7_five 0 = .ok (.iload_n 0, 1) := by decide +kernel
theorem dX7_five_1 : decode cX7_five 1 = .ok (.bipush 97, 2) := by decide +kernel
theorem dX7_five_3 : decode cX7_five 3 = .ok (.isub, 1) := by decide +kernel
theorem dX7_five_4 : decode cX7_five 4 = .ok (.i2l, 1) := by decide +kernel
theorem dX7_five_5 : decode cX7_five 5 = .ok (.lconst 1, 1) := by decide +kernel
theorem dX7_five_6 : decode cX7_five 6 = .ok (.ladd, 1) := by decide +kernel
theorem dX7_five_7 : decode cX7_five 7 = .ok (.ldc2_w 177, 3) := by decide +kernel
theorem dX7_five_10 : decode cX7_five 10 = .ok (.lmul, 1) := by decide +kernel
theorem dX7_five_11 : decode cX7_five 11 = .ok (.iload_n 1, 1) := by decide +kernel
theorem dX7_five_12 : decode cX7_five 12 = .ok (.i2l, 1) := by decide +kernel
theorem dX7_five_13 : decode cX7_five 13 = .ok (.ladd, 1) := by decide +kernel
theorem dX7_five_14 : decode cX7_five 14 = .ok (.ldc2_w 149, 3) := by decide +kernel
theorem dX7_five_17 : decode cX7_five 17 = .ok (.lsub, 1) := by decide +kernel
theorem dX7_five_18 : decode cX7_five 18 = .ok (.lconst 1, 1) := by decide +kernel
theorem dX7_five_19 : decode cX7_five 19 = .ok (.ladd, 1) := by decide +kernel
theorem dX7_five_20 : decode cX7_five 20 = .ok (.lstore 4, 2) := by decide +kernel
theorem dX7_five_22 : decode cX7_five 22 = .ok (.iload_n 2, 1) := by decide +kernel
theorem dX7_five_23 : decode cX7_five 23 = .ok (.ifCond .ne 8, 3) := by decide +kernel
theorem dX7_five_26 : decode cX7_five 26 = .ok (.lload 4, 2) := by decide +kernel
theorem dX7_five_28 : decode cX7_five 28 = .ok (.goto 18, 3) := by decide +kernel
theorem dX7_five_31 : decode cX7_five 31 = .ok (.ldc2_w 177, 3) := by decide +kernel
theorem dX7_five_34 : decode cX7_five 34 = .ok (.lload 4, 2) := by decide +kernel
theorem dX7_five_36 : decode cX7_five 36 = .ok (.lmul, 1) := by decide +kernel
theorem dX7_five_37 : decode cX7_five 37 = .ok (.iload_n 2, 1) := by decide +kernel
theorem dX7_five_38 : decode cX7_five 38 = .ok (.i2l, 1) := by decide +kernel
theorem dX7_five_39 : decode cX7_five 39 = .ok (.ladd, 1) := by decide +kernel
theorem dX7_five_40 : decode cX7_five 40 = .ok (.ldc2_w 149, 3) := by decide +kernel
theorem dX7_five_43 : decode cX7_five 43 = .ok (.lsub, 1) := by decide +kernel
theorem dX7_five_44 : decode cX7_five 44 = .ok (.lconst 1, 1) := by decide +kernel
theorem dX7_five_45 : decode cX7_five 45 = .ok (.ladd, 1) := by decide +kernel
theorem dX7_five_46 : decode cX7_five 46 = .ok (.lstore 4, 2) := by decide +kernel
theorem dX7_five_48 : decode cX7_five 48 = .ok (.iload_n 3, 1) := by decide +kernel
theorem dX7_five_49 : decode cX7_five 49 = .ok (.ifCond .ne 8, 3) := by decide +kernel
theorem dX7_five_52 : decode cX7_five 52 = .ok (.lload 4, 2) := by decide +kernel
theorem dX7_five_54 : decode cX7_five 54 = .ok (.goto 18, 3) := by decide +kernel
theorem dX7_five_57 : decode cX7_five 57 = .ok (.ldc2_w 177, 3) := by decide +kernel
theorem dX7_five_60 : decode cX7_five 60 = .ok (.lload 4, 2) := by decide +kernel
theorem dX7_five_62 : decode cX7_five 62 = .ok (.lmul, 1) := by decide +kernel
theorem dX7_five_63 : decode cX7_five 63 = .ok (.iload_n 3, 1) := by decide +kernel
theorem dX7_five_64 : decode cX7_five 64 = .ok (.i2l, 1) := by decide +kernel
theorem dX7_five_65 : decode cX7_five 65 = .ok (.ladd, 1) := by decide +kernel
theorem dX7_five_66 : decode cX7_five 66 = .ok (.ldc2_w 149, 3) := by decide +kernel
theorem dX7_five_69 : decode cX7_five 69 = .ok (.lsub, 1) := by decide +kernel
theorem dX7_five_70 : decode cX7_five 70 = .ok (.lconst 1, 1) := by decide +kernel
theorem dX7_five_71 : decode cX7_five 71 = .ok (.ladd, 1) := by decide +kernel
theorem dX7_five_72 : decode cX7_five 72 = .ok (.lreturn, 1) := by decide +kernel
theorem dX7_byClause_0 : decode cX7_byClause 0 = .ok (.aload_n 0, 1) := by decide +kernel
theorem dX7_byClause_1 : decode cX7_byClause 1 = .ok (.invokevirtual 153, 3) := by decide +kernel
theorem dX7_byClause_4 : decode cX7_byClause 4 = .ok (.aload_n 0, 1) := by decide +kernel
theorem dX7_byClause_5 : decode cX7_byClause 5 = .ok (.getfield 132, 3) := by decide +kernel
theorem dX7_byClause_8 : decode cX7_byClause 8 = .ok (.istore_n 1, 1) := by decide +kernel
theorem dX7_byClause_9 : decode cX7_byClause 9 = .ok (.aload_n 0, 1) := by decide +kernel
theorem dX7_byClause_10 : decode cX7_byClause 10 = .ok (.invokevirtual 141, 3) := by decide +kernel
theorem dX7_byClause_13 : decode cX7_byClause 13 = .ok (.invokestatic 179, 3) := by decide +kernel
theorem dX7_byClause_16 : decode cX7_byClause 16 = .ok (.ifCond .eq 16, 3) := by decide +kernel
theorem dX7_byClause_19 : decode cX7_byClause 19 = .ok (.aload_n 0, 1) := by decide +kernel
theorem dX7_byClause_20 : decode cX7_byClause 20 = .ok (.dup, 1) := by decide +kernel
theorem dX7_byClause_21 : decode cX7_byClause 21 = .ok (.getfield 132, 3) := by decide +kernel
theorem dX7_byClause_24 : decode cX7_byClause 24 = .ok (.iconst 1, 1) := by decide +kernel
theorem dX7_byClause_25 : decode cX7_byClause 25 = .ok (.iadd, 1) := by decide +kernel
theorem dX7_byClause_26 : decode cX7_byClause 26 = .ok (.putfield 132, 3) := by decide +kernel
theorem dX7_byClause_29 : decode cX7_byClause 29 = .ok (.goto (-20), 3) := by decide +kernel
theorem dX7_byClause_32 : decode cX7_byClause 32 = .ok (.aload_n 0, 1) := by decide +kernel
theorem dX7_byClause_33 : decode cX7_byClause 33 = .ok (.getfield 16, 3) := by decide +kernel
theorem dX7_byClause_36 : decode cX7_byClause 36 = .ok (.iload_n 1, 1) := by decide +kernel
theorem dX7_byClause_37 : decode cX7_byClause 37 = .ok (.aload_n 0, 1) := by decide +kernel
theorem dX7_byClause_38 : decode cX7_byClause 38 = .ok (.getfield 132, 3) := by decide +kernel
theorem dX7_byClause_41 : decode cX7_byClause 41 = .ok (.invokestatic 182, 3) := by decide +kernel
theorem dX7_byClause_44 : decode cX7_byClause 44 = .ok (.lstore_n 2, 1) := by decide +kernel
theorem dX7_byClause_45 : decode cX7_byClause 45 = .ok (.bipush 115, 2) := by decide +kernel
theorem dX7_byClause_47 : decode cX7_byClause 47 = .ok (.bipush 113, 2) := by decide +kernel
theorem dX7_byClause_49 : decode cX7_byClause 49 = .ok (.bipush 117, 2) := by decide +kernel
theorem dX7_byClause_51 : decode cX7_byClause 51 = .ok (.bipush 97, 2) := by decide +kernel
theorem dX7_byClause_53 : decode cX7_byClause 53 = .ok (.invokestatic 186, 3) := by decide +kernel
theorem dX7_byClause_56 : decode cX7_byClause 56 = .ok (.ldc2_w 177, 3) := by decide +kernel
theorem dX7_byClause_59 : decode cX7_byClause 59 = .ok (.lmul, 1) := by decide +kernel
theorem dX7_byClause_60 : decode cX7_byClause 60 = .ok (.ldc2_w 190, 3) := by decide +kernel
theorem dX7_byClause_63 : decode cX7_byClause 63 = .ok (.ladd, 1) := by decide +kernel
theorem dX7_byClause_64 : decode cX7_byClause 64 = .ok (.ldc2_w 149, 3) := by decide +kernel
theorem dX7_byClause_67 : decode cX7_byClause 67 = .ok (.lsub, 1) := by decide +kernel
theorem dX7_byClause_68 : decode cX7_byClause 68 = .ok (.lconst 1, 1) := by decide +kernel
theorem dX7_byClause_69 : decode cX7_byClause 69 = .ok (.ladd, 1) := by decide +kernel
theorem dX7_byClause_70 : decode cX7_byClause 70 = .ok (.ldc2_w 177, 3) := by decide +kernel
theorem dX7_byClause_73 : decode cX7_byClause 73 = .ok (.lmul, 1) := by decide +kernel
theorem dX7_byClause_74 : decode cX7_byClause 74 = .ok (.ldc2_w 192, 3) := by decide +kernel
theorem dX7_byClause_77 : decode cX7_byClause 77 = .ok (.ladd, 1) := by decide +kernel
theorem dX7_byClause_78 : decode cX7_byClause 78 = .ok (.ldc2_w 149, 3) := by decide +kernel
theorem dX7_byClause_81 : decode cX7_byClause 81 = .ok (.lsub, 1) := by decide +kernel
theorem dX7_byClause_82 : decode cX7_byClause 82 = .ok (.lconst 1, 1) := by decide +kernel
theorem dX7_byClause_83 : decode cX7_byClause 83 = .ok (.ladd, 1) := by decide +kernel
theorem dX7_byClause_84 : decode cX7_byClause 84 = .ok (.lstore 4, 2) := by decide +kernel
theorem dX7_byClause_86 : decode cX7_byClause 86 = .ok (.lload_n 2, 1) := by decide +kernel
theorem dX7_byClause_87 : decode cX7_byClause 87 = .ok (.bipush 115, 2) := by decide +kernel
theorem dX7_byClause_89 : decode cX7_byClause 89 = .ok (.bipush 117, 2) := by decide +kernel
theorem dX7_byClause_91 : decode cX7_byClause 91 = .ok (.bipush 109, 2) := by decide +kernel
theorem dX7_byClause_93 : decode cX7_byClause 93 = .ok (.iconst 0, 1) := by decide +kernel
theorem dX7_byClause_94 : decode cX7_byClause 94 = .ok (.invokestatic 186, 3) := by decide +kernel
theorem dX7_byClause_97 : decode cX7_byClause 97 = .ok (.lcmp, 1) := by decide +kernel
theorem dX7_byClause_98 : decode cX7_byClause 98 = .ok (.ifCond .ne 7, 3) := by decide +kernel
theorem dX7_byClause_101 : decode cX7_byClause 101 = .ok (.iconst 0, 1) := by decide +kernel
theorem dX7_byClause_102 : decode cX7_byClause 102 = .ok (.goto 35, 3) := by decide +kernel
theorem dX7_byClause_105 : decode cX7_byClause 105 = .ok (.lload_n 2, 1) := by decide +kernel
theorem dX7_byClause_106 : decode cX7_byClause 106 = .ok (.bipush 109, 2) := by decide +kernel
theorem dX7_byClause_108 : decode cX7_byClause 108 = .ok (.bipush 111, 2) := by decide +kernel
theorem dX7_byClause_110 : decode cX7_byClause 110 = .ok (.bipush 115, 2) := by decide +kernel
theorem dX7_byClause_112 : decode cX7_byClause 112 = .ok (.bipush 116, 2) := by decide +kernel
theorem dX7_byClause_114 : decode cX7_byClause 114 = .ok (.invokestatic 186, 3) := by decide +kernel
theorem dX7_byClause_117 : decode cX7_byClause 117 = .ok (.lcmp, 1) := by decide +kernel
theorem dX7_byClause_118 : decode cX7_byClause 118 = .ok (.ifCond .ne 7, 3) := by decide +kernel
theorem dX7_byClause_121 : decode cX7_byClause 121 = .ok (.iconst 1, 1) := by decide +kernel
theorem dX7_byClause_122 : decode cX7_byClause 122 = .ok (.goto 15, 3) := by decide +kernel
theorem dX7_byClause_125 : decode cX7_byClause 125 = .ok (.lload_n 2, 1) := by decide +kernel
theorem dX7_byClause_126 : decode cX7_byClause 126 = .ok (.lload 4, 2) := by decide +kernel
theorem dX7_byClause_128 : decode cX7_byClause 128 = .ok (.lcmp, 1) := by decide +kernel
theorem dX7_byClause_129 : decode cX7_byClause 129 = .ok (.ifCond .ne 7, 3) := by decide +kernel
theorem dX7_byClause_132 : decode cX7_byClause 132 = .ok (.iconst 2, 1) := by decide +kernel
theorem dX7_byClause_133 : decode cX7_byClause 133 = .ok (.goto 4, 3) := by decide +kernel
theorem dX7_byClause_136 : decode cX7_byClause 136 = .ok (.iconst (-1), 1) := by decide +kernel
theorem dX7_byClause_137 : decode cX7_byClause 137 = .ok (.istore 6, 2) := by decide +kernel
theorem dX7_byClause_139 : decode cX7_byClause 139 = .ok (.iload 6, 2) := by decide +kernel
theorem dX7_byClause_141 : decode cX7_byClause 141 = .ok (.ifCond .ge 12, 3) := by decide +kernel
theorem dX7_byClause_144 : decode cX7_byClause 144 = .ok (.aload_n 0, 1) := by decide +kernel
theorem dX7_byClause_145 : decode cX7_byClause 145 = .ok (.iconst 1, 1) := by decide +kernel
theorem dX7_byClause_146 : decode cX7_byClause 146 = .ok (.iload_n 1, 1) := by decide +kernel
theorem dX7_byClause_147 : decode cX7_byClause 147 = .ok (.invokevirtual 156, 3) := by decide +kernel
theorem dX7_byClause_150 : decode cX7_byClause 150 = .ok (.goto 11, 3) := by decide +kernel
theorem dX7_byClause_153 : decode cX7_byClause 153 = .ok (.aload_n 0, 1) := by decide +kernel
theorem dX7_byClause_154 : decode cX7_byClause 154 = .ok (.getfield 7, 3) := by decide +kernel
theorem dX7_byClause_157 : decode cX7_byClause 157 = .ok (.iconst 5, 1) := by decide +kernel
theorem dX7_byClause_158 : decode cX7_byClause 158 = .ok (.iload 6, 2) := by decide +kernel
theorem dX7_byClause_160 : decode cX7_byClause 160 = .ok (.iastore, 1) := by decide +kernel
theorem dX7_byClause_161 : decode cX7_byClause 161 = .ok (.return_, 1) := by decide +kernel
theorem dX7_termClause_0 : decode cX7_termClause 0 = .ok (.lload_n 1, 1) := by decide +kernel
theorem dX7_termClause_1 : decode cX7_termClause 1 = .ok (.bipush 108, 2) := by decide +kernel
theorem dX7_termClause_3 : decode cX7_termClause 3 = .ok (.bipush 105, 2) := by decide +kernel
theorem dX7_termClause_5 : decode cX7_termClause 5 = .ok (.bipush 107, 2) := by decide +kernel
theorem dX7_termClause_7 : decode cX7_termClause 7 = .ok (.bipush 101, 2) := by decide +kernel
theorem dX7_termClause_9 : decode cX7_termClause 9 = .ok (.invokestatic 186, 3) := by decide +kernel
theorem dX7_termClause_12 : decode cX7_termClause 12 = .ok (.lcmp, 1) := by decide +kernel
theorem dX7_termClause_13 : decode cX7_termClause 13 = .ok (.ifCond .ne 19, 3) := by decide +kernel
theorem dX7_termClause_16 : decode cX7_termClause 16 = .ok (.aload_n 0, 1) := by decide +kernel
theorem dX7_termClause_17 : decode cX7_termClause 17 = .ok (.getfield 7, 3) := by decide +kernel
theorem dX7_termClause_20 : decode cX7_termClause 20 = .ok (.iconst 1, 1) := by decide +kernel
theorem dX7_termClause_21 : decode cX7_termClause 21 = .ok (.aload_n 0, 1) := by decide +kernel
theorem dX7_termClause_22 : decode cX7_termClause 22 = .ok (.iconst 0, 1) := by decide +kernel
theorem dX7_termClause_23 : decode cX7_termClause 23 = .ok (.bipush 99, 2) := by decide +kernel
theorem dX7_termClause_25 : decode cX7_termClause 25 = .ok (.invokevirtual 174, 3) := by decide +kernel
theorem dX7_termClause_28 : decode cX7_termClause 28 = .ok (.iastore, 1) := by decide +kernel
theorem dX7_termClause_29 : decode cX7_termClause 29 = .ok (.goto 123, 3) := by decide +kernel
theorem dX7_termClause_32 : decode cX7_termClause 32 = .ok (.lload_n 1, 1) := by decide +kernel
theorem dX7_termClause_33 : decode cX7_termClause 33 = .ok (.bipush 111, 2) := by decide +kernel
theorem dX7_termClause_35 : decode cX7_termClause 35 = .ok (.bipush 100, 2) := by decide +kernel
theorem dX7_termClause_37 : decode cX7_termClause 37 = .ok (.bipush 100, 2) := by decide +kernel
theorem dX7_termClause_39 : decode cX7_termClause 39 = .ok (.iconst 0, 1) := by decide +kernel
theorem dX7_termClause_40 : decode cX7_termClause 40 = .ok (.invokestatic 186, 3) := by decide +kernel
theorem dX7_termClause_43 : decode cX7_termClause 43 = .ok (.lcmp, 1) := by decide +kernel
theorem dX7_termClause_44 : decode cX7_termClause 44 = .ok (.ifCond .ne 19, 3) := by decide +kernel
theorem dX7_termClause_47 : decode cX7_termClause 47 = .ok (.aload_n 0, 1) := by decide +kernel
theorem dX7_termClause_48 : decode cX7_termClause 48 = .ok (.getfield 7, 3) := by decide +kernel
theorem dX7_termClause_51 : decode cX7_termClause 51 = .ok (.iconst 2, 1) := by decide +kernel
theorem dX7_termClause_52 : decode cX7_termClause 52 = .ok (.aload_n 0, 1) := by decide +kernel
theorem dX7_termClause_53 : decode cX7_termClause 53 = .ok (.iconst 0, 1) := by decide +kernel
theorem dX7_termClause_54 : decode cX7_termClause 54 = .ok (.bipush 20, 2) := by decide +kernel
theorem dX7_termClause_56 : decode cX7_termClause 56 = .ok (.invokevirtual 174, 3) := by decide +kernel
theorem dX7_termClause_59 : decode cX7_termClause 59 = .ok (.iastore, 1) := by decide +kernel
theorem dX7_termClause_60 : decode cX7_termClause 60 = .ok (.goto 92, 3) := by decide +kernel
theorem dX7_termClause_63 : decode cX7_termClause 63 = .ok (.lload_n 1, 1) := by decide +kernel
theorem dX7_termClause_64 : decode cX7_termClause 64 = .ok (.bipush 99, 2) := by decide +kernel
theorem dX7_termClause_66 : decode cX7_termClause 66 = .ok (.bipush 97, 2) := by decide +kernel
theorem dX7_termClause_68 : decode cX7_termClause 68 = .ok (.bipush 112, 2) := by decide +kernel
theorem dX7_termClause_70 : decode cX7_termClause 70 = .ok (.iconst 0, 1) := by decide +kernel
theorem dX7_termClause_71 : decode cX7_termClause 71 = .ok (.invokestatic 186, 3) := by decide +kernel
theorem dX7_termClause_74 : decode cX7_termClause 74 = .ok (.lcmp, 1) := by decide +kernel
theorem dX7_termClause_75 : decode cX7_termClause 75 = .ok (.ifCond .ne 19, 3) := by decide +kernel
theorem dX7_termClause_78 : decode cX7_termClause 78 = .ok (.aload_n 0, 1) := by decide +kernel
theorem dX7_termClause_79 : decode cX7_termClause 79 = .ok (.getfield 7, 3) := by decide +kernel
theorem dX7_termClause_82 : decode cX7_termClause 82 = .ok (.iconst 3, 1) := by decide +kernel
theorem dX7_termClause_83 : decode cX7_termClause 83 = .ok (.aload_n 0, 1) := by decide +kernel
theorem dX7_termClause_84 : decode cX7_termClause 84 = .ok (.iconst 1, 1) := by decide +kernel
theorem dX7_termClause_85 : decode cX7_termClause 85 = .ok (.bipush 20, 2) := by decide +kernel
theorem dX7_termClause_87 : decode cX7_termClause 87 = .ok (.invokevirtual 174, 3) := by decide +kernel
theorem dX7_termClause_90 : decode cX7_termClause 90 = .ok (.iastore, 1) := by decide +kernel
theorem dX7_termClause_91 : decode cX7_termClause 91 = .ok (.goto 61, 3) := by decide +kernel
theorem dX7_termClause_94 : decode cX7_termClause 94 = .ok (.lload_n 1, 1) := by decide +kernel
theorem dX7_termClause_95 : decode cX7_termClause 95 = .ok (.bipush 97, 2) := by decide +kernel
theorem dX7_termClause_97 : decode cX7_termClause 97 = .ok (.bipush 105, 2) := by decide +kernel
theorem dX7_termClause_99 : decode cX7_termClause 99 = .ok (.bipush 109, 2) := by decide +kernel
theorem dX7_termClause_101 : decode cX7_termClause 101 = .ok (.iconst 0, 1) := by decide +kernel
theorem dX7_termClause_102 : decode cX7_termClause 102 = .ok (.invokestatic 186, 3) := by decide +kernel
theorem dX7_termClause_105 : decode cX7_termClause 105 = .ok (.lcmp, 1) := by decide +kernel
theorem dX7_termClause_106 : decode cX7_termClause 106 = .ok (.ifCond .ne 19, 3) := by decide +kernel
theorem dX7_termClause_109 : decode cX7_termClause 109 = .ok (.aload_n 0, 1) := by decide +kernel
theorem dX7_termClause_110 : decode cX7_termClause 110 = .ok (.getfield 7, 3) := by decide +kernel
theorem dX7_termClause_113 : decode cX7_termClause 113 = .ok (.iconst 4, 1) := by decide +kernel
theorem dX7_termClause_114 : decode cX7_termClause 114 = .ok (.aload_n 0, 1) := by decide +kernel
theorem dX7_termClause_115 : decode cX7_termClause 115 = .ok (.iconst 0, 1) := by decide +kernel
theorem dX7_termClause_116 : decode cX7_termClause 116 = .ok (.bipush 99, 2) := by decide +kernel
theorem dX7_termClause_118 : decode cX7_termClause 118 = .ok (.invokevirtual 174, 3) := by decide +kernel
theorem dX7_termClause_121 : decode cX7_termClause 121 = .ok (.iastore, 1) := by decide +kernel
theorem dX7_termClause_122 : decode cX7_termClause 122 = .ok (.goto 30, 3) := by decide +kernel
theorem dX7_termClause_125 : decode cX7_termClause 125 = .ok (.lload_n 1, 1) := by decide +kernel
theorem dX7_termClause_126 : decode cX7_termClause 126 = .ok (.bipush 98, 2) := by decide +kernel
theorem dX7_termClause_128 : decode cX7_termClause 128 = .ok (.bipush 121, 2) := by decide +kernel
theorem dX7_termClause_130 : decode cX7_termClause 130 = .ok (.iconst 0, 1) := by decide +kernel
theorem dX7_termClause_131 : decode cX7_termClause 131 = .ok (.iconst 0, 1) := by decide +kernel
theorem dX7_termClause_132 : decode cX7_termClause 132 = .ok (.invokestatic 186, 3) := by decide +kernel
theorem dX7_termClause_135 : decode cX7_termClause 135 = .ok (.lcmp, 1) := by decide +kernel
theorem dX7_termClause_136 : decode cX7_termClause 136 = .ok (.ifCond .ne 10, 3) := by decide +kernel
theorem dX7_termClause_139 : decode cX7_termClause 139 = .ok (.aload_n 0, 1) := by decide +kernel
theorem dX7_termClause_140 : decode cX7_termClause 140 = .ok (.invokevirtual 194, 3) := by decide +kernel
theorem dX7_termClause_143 : decode cX7_termClause 143 = .ok (.goto 9, 3) := by decide +kernel
theorem dX7_termClause_146 : decode cX7_termClause 146 = .ok (.aload_n 0, 1) := by decide +kernel
theorem dX7_termClause_147 : decode cX7_termClause 147 = .ok (.iconst 1, 1) := by decide +kernel
theorem dX7_termClause_148 : decode cX7_termClause 148 = .ok (.iload_n 3, 1) := by decide +kernel
theorem dX7_termClause_149 : decode cX7_termClause 149 = .ok (.invokevirtual 156, 3) := by decide +kernel
theorem dX7_termClause_152 : decode cX7_termClause 152 = .ok (.return_, 1) := by decide +kernel
theorem dX7_clause_0 : decode cX7_clause 0 = .ok (.aload_n 0, 1) := by decide +kernel
theorem dX7_clause_1 : decode cX7_clause 1 = .ok (.getfield 132, 3) := by decide +kernel
theorem dX7_clause_4 : decode cX7_clause 4 = .ok (.istore_n 1, 1) := by decide +kernel
theorem dX7_clause_5 : decode cX7_clause 5 = .ok (.aload_n 0, 1) := by decide +kernel
theorem dX7_clause_6 : decode cX7_clause 6 = .ok (.invokevirtual 141, 3) := by decide +kernel
theorem dX7_clause_9 : decode cX7_clause 9 = .ok (.invokestatic 179, 3) := by decide +kernel
theorem dX7_clause_12 : decode cX7_clause 12 = .ok (.ifCond .eq 16, 3) := by decide +kernel
theorem dX7_clause_15 : decode cX7_clause 15 = .ok (.aload_n 0, 1) := by decide +kernel
theorem dX7_clause_16 : decode cX7_clause 16 = .ok (.dup, 1) := by decide +kernel
theorem dX7_clause_17 : decode cX7_clause 17 = .ok (.getfield 132, 3) := by decide +kernel
theorem dX7_clause_20 : decode cX7_clause 20 = .ok (.iconst 1, 1) := by decide +kernel
theorem dX7_clause_21 : decode cX7_clause 21 = .ok (.iadd, 1) := by decide +kernel
theorem dX7_clause_22 : decode cX7_clause 22 = .ok (.putfield 132, 3) := by decide +kernel
theorem dX7_clause_25 : decode cX7_clause 25 = .ok (.goto (-20), 3) := by decide +kernel
theorem dX7_clause_28 : decode cX7_clause 28 = .ok (.aload_n 0, 1) := by decide +kernel
theorem dX7_clause_29 : decode cX7_clause 29 = .ok (.getfield 132, 3) := by decide +kernel
theorem dX7_clause_32 : decode cX7_clause 32 = .ok (.iload_n 1, 1) := by decide +kernel
theorem dX7_clause_33 : decode cX7_clause 33 = .ok (.if_icmp .le 15, 3) := by decide +kernel
theorem dX7_clause_36 : decode cX7_clause 36 = .ok (.aload_n 0, 1) := by decide +kernel
theorem dX7_clause_37 : decode cX7_clause 37 = .ok (.getfield 16, 3) := by decide +kernel
theorem dX7_clause_40 : decode cX7_clause 40 = .ok (.iload_n 1, 1) := by decide +kernel
