theorem dX3_init_0 : decode cX3_init 0 = .ok (.aload_n 0, 1) := by decide +kernel
theorem dX3_init_1 : decode cX3_init 1 = .ok (.invokespecial 3, 3) := by decide +kernel
theorem dX3_init_4 : decode cX3_init 4 = .ok (.aload_n 0, 1) := by decide +kernel
theorem dX3_init_5 : decode cX3_init 5 = .ok (.sipush 150, 3) := by decide +kernel
theorem dX3_init_8 : decode cX3_init 8 = .ok (.newarray .char, 2) := by decide +kernel
theorem dX3_init_10 : decode cX3_init 10 = .ok (.putfield 9, 3) := by decide +kernel
theorem dX3_init_13 : decode cX3_init 13 = .ok (.aload_n 0, 1) := by decide +kernel
theorem dX3_init_14 : decode cX3_init 14 = .ok (.iconst 0, 1) := by decide +kernel
theorem dX3_init_15 : decode cX3_init 15 = .ok (.putfield 15, 3) := by decide +kernel
theorem dX3_init_18 : decode cX3_init 18 = .ok (.aload_n 0, 1) := by decide +kernel
theorem dX3_init_19 : decode cX3_init 19 = .ok (.iconst 0, 1) := by decide +kernel
theorem dX3_init_20 : decode cX3_init 20 = .ok (.putfield 19, 3) := by decide +kernel
theorem dX3_init_23 : decode cX3_init 23 = .ok (.aload_n 0, 1) := by decide +kernel
theorem dX3_init_24 : decode cX3_init 24 = .ok (.iconst 0, 1) := by decide +kernel
theorem dX3_init_25 : decode cX3_init 25 = .ok (.putfield 22, 3) := by decide +kernel
theorem dX3_init_28 : decode cX3_init 28 = .ok (.aload_n 0, 1) := by decide +kernel
theorem dX3_init_29 : decode cX3_init 29 = .ok (.iconst 0, 1) := by decide +kernel
theorem dX3_init_30 : decode cX3_init 30 = .ok (.putfield 25, 3) := by decide +kernel
theorem dX3_init_33 : decode cX3_init 33 = .ok (.aload_n 0, 1) := by decide +kernel
theorem dX3_init_34 : decode cX3_init 34 = .ok (.iconst (-1), 1) := by decide +kernel
theorem dX3_init_35 : decode cX3_init 35 = .ok (.putfield 28, 3) := by decide +kernel
theorem dX3_init_38 : decode cX3_init 38 = .ok (.aload_n 0, 1) := by decide +kernel
theorem dX3_init_39 : decode cX3_init 39 = .ok (.new 31, 3) := by decide +kernel
theorem dX3_init_42 : decode cX3_init 42 = .ok (.dup, 1) := by decide +kernel
theorem dX3_init_43 : decode cX3_init 43 = .ok (.invokespecial 33, 3) := by decide +kernel
theorem dX3_init_46 : decode cX3_init 46 = .ok (.putfield 34, 3) := by decide +kernel
theorem dX3_init_49 : decode cX3_init 49 = .ok (.return_, 1) := by decide +kernel
theorem dX3_take_0 : decode cX3_take 0 = .ok (.aload_n 0, 1) := by decide +kernel
theorem dX3_take_1 : decode cX3_take 1 = .ok (.getfield 15, 3) := by decide +kernel
theorem dX3_take_4 : decode cX3_take 4 = .ok (.sipush 150, 3) := by decide +kernel
theorem dX3_take_7 : decode cX3_take 7 = .ok (.if_icmp .lt 5, 3) := by decide +kernel
theorem dX3_take_10 : decode cX3_take 10 = .ok (.iconst 0, 1) := by decide +kernel
theorem dX3_take_11 : decode cX3_take 11 = .ok (.ireturn, 1) := by decide +kernel
theorem dX3_take_12 : decode cX3_take 12 = .ok (.aload_n 0, 1) := by decide +kernel
theorem dX3_take_13 : decode cX3_take 13 = .ok (.getfield 9, 3) := by decide +kernel
theorem dX3_take_16 : decode cX3_take 16 = .ok (.aload_n 0, 1) := by decide +kernel
theorem dX3_take_17 : decode cX3_take 17 = .ok (.getfield 15, 3) := by decide +kernel
theorem dX3_take_20 : decode cX3_take 20 = .ok (.iload_n 1, 1) := by decide +kernel
theorem dX3_take_21 : decode cX3_take 21 = .ok (.i2c, 1) := by decide +kernel
theorem dX3_take_22 : decode cX3_take 22 = .ok (.castore, 1) := by decide +kernel
theorem dX3_take_23 : decode cX3_take 23 = .ok (.aload_n 0, 1) := by decide +kernel
theorem dX3_take_24 : decode cX3_take 24 = .ok (.dup, 1) := by decide +kernel
theorem dX3_take_25 : decode cX3_take 25 = .ok (.getfield 15, 3) := by decide +kernel
theorem dX3_take_28 : decode cX3_take 28 = .ok (.iconst 1, 1) := by decide +kernel
theorem dX3_take_29 : decode cX3_take 29 = .ok (.iadd, 1) := by decide +kernel
theorem dX3_take_30 : decode cX3_take 30 = .ok (.putfield 15, 3) := by decide +kernel
theorem dX3_take_33 : decode cX3_take 33 = .ok (.iconst 1, 1) := by decide +kernel
theorem dX3_take_34 : decode cX3_take 34 = .ok (.ireturn, 1) := by decide +kernel
theorem dX3_read_0 : decode cX3_read 0 = .ok (.aload_n 0, 1) := by decide +kernel
theorem dX3_read_1 : decode cX3_read 1 = .ok (.getfield 34, 3) := by decide +kernel
theorem dX3_read_4 : decode cX3_read 4 = .ok (.aload_n 1, 1) := by decide +kernel
theorem dX3_read_5 : decode cX3_read 5 = .ok (.invokevirtual 38, 3) := by decide +kernel
theorem dX3_read_8 : decode cX3_read 8 = .ok (.aload_n 0, 1) := by decide +kernel
theorem dX3_read_9 : decode cX3_read 9 = .ok (.iconst 0, 1) := by decide +kernel
theorem dX3_read_10 : decode cX3_read 10 = .ok (.putfield 19, 3) := by decide +kernel
theorem dX3_read_13 : decode cX3_read 13 = .ok (.aload_n 0, 1) := by decide +kernel
theorem dX3_read_14 : decode cX3_read 14 = .ok (.iconst 0, 1) := by decide +kernel
theorem dX3_read_15 : decode cX3_read 15 = .ok (.putfield 22, 3) := by decide +kernel
theorem dX3_read_18 : decode cX3_read 18 = .ok (.aload_n 0, 1) := by decide +kernel
theorem dX3_read_19 : decode cX3_read 19 = .ok (.iconst 0, 1) := by decide +kernel
theorem dX3_read_20 : decode cX3_read 20 = .ok (.putfield 25, 3) := by decide +kernel
theorem dX3_read_23 : decode cX3_read 23 = .ok (.aload_n 0, 1) := by decide +kernel
theorem dX3_read_24 : decode cX3_read 24 = .ok (.iconst (-1), 1) := by decide +kernel
theorem dX3_read_25 : decode cX3_read 25 = .ok (.putfield 28, 3) := by decide +kernel
theorem dX3_read_28 : decode cX3_read 28 = .ok (.iconst 0, 1) := by decide +kernel
theorem dX3_read_29 : decode cX3_read 29 = .ok (.istore_n 2, 1) := by decide +kernel
theorem dX3_read_30 : decode cX3_read 30 = .ok (.iload_n 2, 1) := by decide +kernel
theorem dX3_read_31 : decode cX3_read 31 = .ok (.aload_n 0, 1) := by decide +kernel
theorem dX3_read_32 : decode cX3_read 32 = .ok (.getfield 15, 3) := by decide +kernel
theorem dX3_read_35 : decode cX3_read 35 = .ok (.if_icmp .ge 48, 3) := by decide +kernel
theorem dX3_read_38 : decode cX3_read 38 = .ok (.aload_n 0, 1) := by decide +kernel
theorem dX3_read_39 : decode cX3_read 39 = .ok (.invokevirtual 42, 3) := by decide +kernel
theorem dX3_read_42 : decode cX3_read 42 = .ok (.aload_n 0, 1) := by decide +kernel
theorem dX3_read_43 : decode cX3_read 43 = .ok (.getfield 19, 3) := by decide +kernel
theorem dX3_read_46 : decode cX3_read 46 = .ok (.aload_n 0, 1) := by decide +kernel
theorem dX3_read_47 : decode cX3_read 47 = .ok (.getfield 15, 3) := by decide +kernel
theorem dX3_read_50 : decode cX3_read 50 = .ok (.if_icmp .ge 33, 3) := by decide +kernel
theorem dX3_read_53 : decode cX3_read 53 = .ok (.aload_n 0, 1) := by decide +kernel
theorem dX3_read_54 : decode cX3_read 54 = .ok (.getfield 25, 3) := by decide +kernel
theorem dX3_read_57 : decode cX3_read 57 = .ok (.ifCond .eq 6, 3) := by decide +kernel
theorem dX3_read_60 : decode cX3_read 60 = .ok (.goto 23, 3) := by decide +kernel
theorem dX3_read_63 : decode cX3_read 63 = .ok (.aload_n 0, 1) := by decide +kernel
theorem dX3_read_64 : decode cX3_read 64 = .ok (.invokevirtual 45, 3) := by decide +kernel
theorem dX3_read_67 : decode cX3_read 67 = .ok (.aload_n 0, 1) := by decide +kernel
theorem dX3_read_68 : decode cX3_read 68 = .ok (.dup, 1) := by decide +kernel
theorem dX3_read_69 : decode cX3_read 69 = .ok (.getfield 22, 3) := by decide +kernel
theorem dX3_read_72 : decode cX3_read 72 = .ok (.iconst 1, 1) := by decide +kernel
theorem dX3_read_73 : decode cX3_read 73 = .ok (.iadd, 1) := by decide +kernel
theorem dX3_read_74 : decode cX3_read 74 = .ok (.putfield 22, 3) := by decide +kernel
theorem dX3_read_77 : decode cX3_read 77 = .ok (.iinc 2 1, 3) := by decide +kernel
theorem dX3_read_80 : decode cX3_read 80 = .ok (.goto (-50), 3) := by decide +kernel
theorem dX3_read_83 : decode cX3_read 83 = .ok (.aload_n 0, 1) := by decide +kernel
theorem dX3_read_84 : decode cX3_read 84 = .ok (.iconst 0, 1) := by decide +kernel
theorem dX3_read_85 : decode cX3_read 85 = .ok (.putfield 15, 3) := by decide +kernel
theorem dX3_read_88 : decode cX3_read 88 = .ok (.return_, 1) := by decide +kernel
theorem dX3_readClause_0 : decode cX3_readClause 0 = .ok (.aload_n 0, 1) := by decide +kernel
theorem dX3_readClause_1 : decode cX3_readClause 1 = .ok (.getfield 19, 3) := by decide +kernel
theorem dX3_readClause_4 : decode cX3_readClause 4 = .ok (.istore_n 1, 1) := by decide +kernel
theorem dX3_readClause_5 : decode cX3_readClause 5 = .ok (.aload_n 0, 1) := by decide +kernel
theorem dX3_readClause_6 : decode cX3_readClause 6 = .ok (.invokevirtual 48, 3) := by decide +kernel
theorem dX3_readClause_9 : decode cX3_readClause 9 = .ok (.istore_n 2, 1) := by decide +kernel
theorem dX3_readClause_10 : decode cX3_readClause 10 = .ok (.iload_n 2, 1) := by decide +kernel
theorem dX3_readClause_11 : decode cX3_readClause 11 = .ok (.iconst 1, 1) := by decide +kernel
theorem dX3_readClause_12 : decode cX3_readClause 12 = .ok (.if_icmp .ne 27, 3) := by decide +kernel
theorem dX3_readClause_15 : decode cX3_readClause 15 = .ok (.aload_n 0, 1) := by decide +kernel
theorem dX3_readClause_16 : decode cX3_readClause 16 = .ok (.iload_n 1, 1) := by decide +kernel
theorem dX3_readClause_17 : decode cX3_readClause 17 = .ok (.invokevirtual 52, 3) := by decide +kernel
theorem dX3_readClause_20 : decode cX3_readClause 20 = .ok (.ifCond .eq 19, 3) := by decide +kernel
theorem dX3_readClause_23 : decode cX3_readClause 23 = .ok (.aload_n 0, 1) := by decide +kernel
theorem dX3_readClause_24 : decode cX3_readClause 24 = .ok (.aload_n 0, 1) := by decide +kernel
theorem dX3_readClause_25 : decode cX3_readClause 25 = .ok (.getfield 9, 3) := by decide +kernel
theorem dX3_readClause_28 : decode cX3_readClause 28 = .ok (.iload_n 1, 1) := by decide +kernel
theorem dX3_readClause_29 : decode cX3_readClause 29 = .ok (.caload, 1) := by decide +kernel
theorem dX3_readClause_30 : decode cX3_readClause 30 = .ok (.bipush 97, 2) := by decide +kernel
theorem dX3_readClause_32 : decode cX3_readClause 32 = .ok (.isub, 1) := by decide +kernel
theorem dX3_readClause_33 : decode cX3_readClause 33 = .ok (.invokevirtual 56, 3) := by decide +kernel
theorem dX3_readClause_36 : decode cX3_readClause 36 = .ok (.goto 134, 3) := by decide +kernel
theorem dX3_readClause_39 : decode cX3_readClause 39 = .ok (.iload_n 2, 1) := by decide +kernel
theorem dX3_readClause_40 : decode cX3_readClause 40 = .ok (.iconst 2, 1) := by decide +kernel
theorem dX3_readClause_41 : decode cX3_readClause 41 = .ok (.if_icmp .ne 29, 3) := by decide +kernel
theorem dX3_readClause_44 : decode cX3_readClause 44 = .ok (.aload_n 0, 1) := by decide +kernel
theorem dX3_readClause_45 : decode cX3_readClause 45 = .ok (.iload_n 1, 1) := by decide +kernel
theorem dX3_readClause_46 : decode cX3_readClause 46 = .ok (.invokevirtual 52, 3) := by decide +kernel
theorem dX3_readClause_49 : decode cX3_readClause 49 = .ok (.ifCond .eq 21, 3) := by decide +kernel
theorem dX3_readClause_52 : decode cX3_readClause 52 = .ok (.aload_n 0, 1) := by decide +kernel
theorem dX3_readClause_53 : decode cX3_readClause 53 = .ok (.iload_n 1, 1) := by decide +kernel
theorem dX3_readClause_54 : decode cX3_readClause 54 = .ok (.iconst 1, 1) := by decide +kernel
theorem dX3_readClause_55 : decode cX3_readClause 55 = .ok (.iadd, 1) := by decide +kernel
theorem dX3_readClause_56 : decode cX3_readClause 56 = .ok (.invokevirtual 52, 3) := by decide +kernel
theorem dX3_readClause_59 : decode cX3_readClause 59 = .ok (.ifCond .eq 11, 3) := by decide +kernel
theorem dX3_readClause_62 : decode cX3_readClause 62 = .ok (.aload_n 0, 1) := by decide +kernel
theorem dX3_readClause_63 : decode cX3_readClause 63 = .ok (.iload_n 1, 1) := by decide +kernel
theorem dX3_readClause_64 : decode cX3_readClause 64 = .ok (.invokevirtual 60, 3) := by decide +kernel
theorem dX3_readClause_67 : decode cX3_readClause 67 = .ok (.goto 103, 3) := by decide +kernel
theorem dX3_readClause_70 : decode cX3_readClause 70 = .ok (.aload_n 0, 1) := by decide +kernel
theorem dX3_readClause_71 : decode cX3_readClause 71 = .ok (.iload_n 1, 1) := by decide +kernel
theorem dX3_readClause_72 : decode cX3_readClause 72 = .ok (.iload_n 2, 1) := by decide +kernel
theorem dX3_readClause_73 : decode cX3_readClause 73 = .ok (.ldc 63, 2) := by decide +kernel
theorem dX3_readClause_75 : decode cX3_readClause 75 = .ok (.invokevirtual 65, 3) := by decide +kernel
theorem dX3_readClause_78 : decode cX3_readClause 78 = .ok (.ifCond .eq 11, 3) := by decide +kernel
theorem dX3_readClause_81 : decode cX3_readClause 81 = .ok (.aload_n 0, 1) := by decide +kernel
theorem dX3_readClause_82 : decode cX3_readClause 82 = .ok (.iconst 0, 1) := by decide +kernel
theorem dX3_readClause_83 : decode cX3_readClause 83 = .ok (.invokevirtual 69, 3) := by decide +kernel
theorem dX3_readClause_86 : decode cX3_readClause 86 = .ok (.goto 84, 3) := by decide +kernel
theorem dX3_readClause_89 : decode cX3_readClause 89 = .ok (.aload_n 0, 1) := by decide +kernel
theorem dX3_readClause_90 : decode cX3_readClause 90 = .ok (.iload_n 1, 1) := by decide +kernel
theorem dX3_readClause_91 : decode cX3_readClause 91 = .ok (.iload_n 2, 1) := by decide +kernel
theorem dX3_readClause_92 : decode cX3_readClause 92 = .ok (.ldc 72, 2) := by decide +kernel
theorem dX3_readClause_94 : decode cX3_readClause 94 = .ok (.invokevirtual 65, 3) := by decide +kernel
theorem dX3_readClause_97 : decode cX3_readClause 97 = .ok (.ifCond .eq 11, 3) := by decide +kernel
theorem dX3_readClause_100 : decode cX3_readClause 100 = .ok (.aload_n 0, 1) := by decide +kernel
theorem dX3_readClause_101 : decode cX3_readClause 101 = .ok (.iconst 1, 1) := by decide +kernel
theorem dX3_readClause_102 : decode cX3_readClause 102 = .ok (.invokevirtual 69, 3) := by decide +kernel
theorem dX3_readClause_105 : decode cX3_readClause 105 = .ok (.goto 65, 3) := by decide +kernel
theorem dX3_readClause_108 : decode cX3_readClause 108 = .ok (.aload_n 0, 1) := by decide +kernel
theorem dX3_readClause_109 : decode cX3_readClause 109 = .ok (.iload_n 1, 1) := by decide +kernel
theorem dX3_readClause_110 : decode cX3_readClause 110 = .ok (.iload_n 2, 1) := by decide +kernel
theorem dX3_readClause_111 : decode cX3_readClause 111 = .ok (.ldc 74, 2) := by decide +kernel
theorem dX3_readClause_113 : decode cX3_readClause 113 = .ok (.invokevirtual 65, 3) := by decide +kernel
theorem dX3_readClause_116 : decode cX3_readClause 116 = .ok (.ifCond .eq 11, 3) := by decide +kernel
theorem dX3_readClause_119 : decode cX3_readClause 119 = .ok (.aload_n 0, 1) := by decide +kernel
theorem dX3_readClause_120 : decode cX3_readClause 120 = .ok (.iconst 2, 1) := by decide +kernel
theorem dX3_readClause_121 : decode cX3_readClause 121 = .ok (.invokevirtual 69, 3) := by decide +kernel
theorem dX3_readClause_124 : decode cX3_readClause 124 = .ok (.goto 46, 3) := by decide +kernel
theorem dX3_readClause_127 : decode cX3_readClause 127 = .ok (.aload_n 0, 1) := by decide +kernel
theorem dX3_readClause_128 : decode cX3_readClause 128 = .ok (.iload_n 1, 1) := by decide +kernel
theorem dX3_readClause_129 : decode cX3_readClause 129 = .ok (.iload_n 2, 1) := by decide +kernel
theorem dX3_readClause_130 : decode cX3_readClause 130 = .ok (.ldc 76, 2) := by decide +kernel
theorem dX3_readClause_132 : decode cX3_readClause 132 = .ok (.invokevirtual 65, 3) := by decide +kernel
theorem dX3_readClause_135 : decode cX3_readClause 135 = .ok (.ifCond .eq 11, 3) := by decide +kernel
theorem dX3_readClause_138 : decode cX3_readClause 138 = .ok (.aload_n 0, 1) := by decide +kernel
theorem dX3_readClause_139 : decode cX3_readClause 139 = .ok (.iconst 3, 1) := by decide +kernel
theorem dX3_readClause_140 : decode cX3_readClause 140 = .ok (.invokevirtual 69, 3) := by decide +kernel
theorem dX3_readClause_143 : decode cX3_readClause 143 = .ok (.goto 27, 3) := by decide +kernel
theorem dX3_readClause_146 : decode cX3_readClause 146 = .ok (.aload_n 0, 1) := by decide +kernel
theorem dX3_readClause_147 : decode cX3_readClause 147 = .ok (.iload_n 1, 1) := by decide +kernel
theorem dX3_readClause_148 : decode cX3_readClause 148 = .ok (.iload_n 2, 1) := by decide +kernel
theorem dX3_readClause_149 : decode cX3_readClause 149 = .ok (.ldc 78, 2) := by decide +kernel
theorem dX3_readClause_151 : decode cX3_readClause 151 = .ok (.invokevirtual 65, 3) := by decide +kernel
theorem dX3_readClause_154 : decode cX3_readClause 154 = .ok (.ifCond .eq 10, 3) := by decide +kernel
theorem dX3_readClause_157 : decode cX3_readClause 157 = .ok (.aload_n 0, 1) := by decide +kernel
theorem dX3_readClause_158 : decode cX3_readClause 158 = .ok (.invokevirtual 80, 3) := by decide +kernel
theorem dX3_readClause_161 : decode cX3_readClause 161 = .ok (.goto 9, 3) := by decide +kernel
theorem dX3_readClause_164 : decode cX3_readClause 164 = .ok (.aload_n 0, 1) := by decide +kernel
theorem dX3_readClause_165 : decode cX3_readClause 165 = .ok (.iconst 1, 1) := by decide +kernel
theorem dX3_readClause_166 : decode cX3_readClause 166 = .ok (.iload_n 1, 1) := by decide +kernel
theorem dX3_readClause_167 : decode cX3_readClause 167 = .ok (.invokevirtual 83, 3) := by decide +kernel
theorem dX3_readClause_170 : decode cX3_readClause 170 = .ok (.return_, 1) := by decide +kernel
theorem dX3_readLetter_0 : decode cX3_readLetter 0 = .ok (.aload_n 0, 1) := by decide +kernel
theorem dX3_readLetter_1 : decode cX3_readLetter 1 = .ok (.invokevirtual 87, 3) := by decide +kernel
theorem dX3_readLetter_4 : decode cX3_readLetter 4 = .ok (.istore_n 2, 1) := by decide +kernel
theorem dX3_readLetter_5 : decode cX3_readLetter 5 = .ok (.aload_n 0, 1) := by decide +kernel
theorem dX3_readLetter_6 : decode cX3_readLetter 6 = .ok (.bipush 47, 2) := by decide +kernel
theorem dX3_readLetter_8 : decode cX3_readLetter 8 = .ok (.invokevirtual 90, 3) := by decide +kernel
theorem dX3_readLetter_11 : decode cX3_readLetter 11 = .ok (.aload_n 0, 1) := by decide +kernel
theorem dX3_readLetter_12 : decode cX3_readLetter 12 = .ok (.invokevirtual 87, 3) := by decide +kernel
theorem dX3_readLetter_15 : decode cX3_readLetter 15 = .ok (.istore_n 3, 1) := by decide +kernel
theorem dX3_readLetter_16 : decode cX3_readLetter 16 = .ok (.aload_n 0, 1) := by decide +kernel
theorem dX3_readLetter_17 : decode cX3_readLetter 17 = .ok (.bipush 44, 2) := by decide +kernel
theorem dX3_readLetter_19 : decode cX3_readLetter 19 = .ok (.invokevirtual 90, 3) := by decide +kernel
theorem dX3_readLetter_22 : decode cX3_readLetter 22 = .ok (.aload_n 0, 1) := by decide +kernel
theorem dX3_readLetter_23 : decode cX3_readLetter 23 = .ok (.invokevirtual 93, 3) := by decide +kernel
theorem dX3_readLetter_26 : decode cX3_readLetter 26 = .ok (.istore 4, 2) := by decide +kernel
theorem dX3_readLetter_28 : decode cX3_readLetter 28 = .ok (.aload_n 0, 1) := by decide +kernel
theorem dX3_readLetter_29 : decode cX3_readLetter 29 = .ok (.bipush 59, 2) := by decide +kernel
theorem dX3_readLetter_31 : decode cX3_readLetter 31 = .ok (.invokevirtual 90, 3) := by decide +kernel
theorem dX3_readLetter_34 : decode cX3_readLetter 34 = .ok (.aload_n 0, 1) := by decide +kernel
theorem dX3_readLetter_35 : decode cX3_readLetter 35 = .ok (.getfield 25, 3) := by decide +kernel
theorem dX3_readLetter_38 : decode cX3_readLetter 38 = .ok (.ifCond .ne 15, 3) := by decide +kernel
theorem dX3_readLetter_41 : decode cX3_readLetter 41 = .ok (.aload_n 0, 1) := by decide +kernel
theorem dX3_readLetter_42 : decode cX3_readLetter 42 = .ok (.getfield 34, 3) := by decide +kernel
theorem dX3_readLetter_45 : decode cX3_readLetter 45 = .ok (.iload_n 1, 1) := by decide +kernel
theorem dX3_readLetter_46 : decode cX3_readLetter 46 = .ok (.iload_n 2, 1) := by decide +kernel
theorem dX3_readLetter_47 : decode cX3_readLetter 47 = .ok (.iload_n 3, 1) := by decide +kernel
theorem dX3_readLetter_48 : decode cX3_readLetter 48 = .ok (.iload 4, 2) := by decide +kernel
theorem dX3_readLetter_50 : decode cX3_readLetter 50 = .ok (.invokevirtual 96, 3) := by decide +kernel
theorem dX3_readLetter_53 : decode cX3_readLetter 53 = .ok (.return_, 1) := by decide +kernel
theorem dX3_readPair_0 : decode cX3_readPair 0 = .ok (.aload_n 0, 1) := by decide +kernel
theorem dX3_readPair_1 : decode cX3_readPair 1 = .ok (.getfield 9, 3) := by decide +kernel
theorem dX3_readPair_4 : decode cX3_readPair 4 = .ok (.iload_n 1, 1) := by decide +kernel
theorem dX3_readPair_5 : decode cX3_readPair 5 = .ok (.caload, 1) := by decide +kernel
theorem dX3_readPair_6 : decode cX3_readPair 6 = .ok (.bipush 97, 2) := by decide +kernel
theorem dX3_readPair_8 : decode cX3_readPair 8 = .ok (.isub, 1) := by decide +kernel
theorem dX3_readPair_9 : decode cX3_readPair 9 = .ok (.istore_n 2, 1) := by decide +kernel
theorem dX3_readPair_10 : decode cX3_readPair 10 = .ok (.aload_n 0, 1) := by decide +kernel
theorem dX3_readPair_11 : decode cX3_readPair 11 = .ok (.getfield 9, 3) := by decide +kernel
theorem dX3_readPair_14 : decode cX3_readPair 14 = .ok (.iload_n 1, 1) := by decide +kernel
theorem dX3_readPair_15 : decode cX3_readPair 15 = .ok (.iconst 1, 1) := by decide +kernel
theorem dX3_readPair_16 : decode cX3_readPair 16 = .ok (.iadd, 1) := by decide +kernel
theorem dX3_readPair_17 : decode cX3_readPair 17 = .ok (.caload, 1) := by decide +kernel
theorem dX3_readPair_18 : decode cX3_readPair 18 = .ok (.bipush 97, 2) := by decide +kernel
theorem dX3_readPair_20 : decode cX3_readPair 20 = .ok (.isub, 1) := by decide +kernel
theorem dX3_readPair_21 : decode cX3_readPair 21 = .ok (.istore_n 3, 1) := by decide +kernel
theorem dX3_readPair_22 : decode cX3_readPair 22 = .ok (.aload_n 0, 1) := by decide +kernel
theorem dX3_readPair_23 : decode cX3_readPair 23 = .ok (.getfield 34, 3) := by decide +kernel
theorem dX3_readPair_26 : decode cX3_readPair 26 = .ok (.iload_n 2, 1) := by decide +kernel
theorem dX3_readPair_27 : decode cX3_readPair 27 = .ok (.iload_n 3, 1) := by decide +kernel
theorem dX3_readPair_28 : decode cX3_readPair 28 = .ok (.invokevirtual 100, 3) := by decide +kernel
theorem dX3_readPair_31 : decode cX3_readPair 31 = .ok (.ifCond .ne 9, 3) := by decide +kernel
theorem dX3_readPair_34 : decode cX3_readPair 34 = .ok (.aload_n 0, 1) := by decide +kernel
theorem dX3_readPair_35 : decode cX3_readPair 35 = .ok (.iconst 3, 1) := by decide +kernel
theorem dX3_readPair_36 : decode cX3_readPair 36 = .ok (.iload_n 1, 1) := by decide +kernel
theorem dX3_readPair_37 : decode cX3_readPair 37 = .ok (.invokevirtual 83, 3) := by decide +kernel
theorem dX3_readPair_40 : decode cX3_readPair 40 = .ok (.aload_n 0, 1) := by decide +kernel
theorem dX3_readPair_41 : decode cX3_readPair 41 = .ok (.bipush 58, 2) := by decide +kernel
theorem dX3_readPair_43 : decode cX3_readPair 43 = .ok (.invokevirtual 90, 3) := by decide +kernel
theorem dX3_readPair_46 : decode cX3_readPair 46 = .ok (.aload_n 0, 1) := by decide +kernel
theorem dX3_readPair_47 : decode cX3_readPair 47 = .ok (.invokevirtual 104, 3) := by decide +kernel
theorem dX3_readPair_50 : decode cX3_readPair 50 = .ok (.istore 4, 2) := by decide +kernel
theorem dX3_readPair_52 : decode cX3_readPair 52 = .ok (.aload_n 0, 1) := by decide +kernel
theorem dX3_readPair_53 : decode cX3_readPair 53 = .ok (.iconst 0, 1) := by decide +kernel
theorem dX3_readPair_54 : decode cX3_readPair 54 = .ok (.bipush 20, 2) := by decide +kernel
theorem dX3_readPair_56 : decode cX3_readPair 56 = .ok (.invokevirtual 108, 3) := by decide +kernel
theorem dX3_readPair_59 : decode cX3_readPair 59 = .ok (.istore 5, 2) := by decide +kernel
theorem dX3_readPair_61 : decode cX3_readPair 61 = .ok (.aload_n 0, 1) := by decide +kernel
theorem dX3_readPair_62 : decode cX3_readPair 62 = .ok (.bipush 59, 2) := by decide +kernel
theorem dX3_readPair_64 : decode cX3_readPair 64 = .ok (.invokevirtual 90, 3) := by decide +kernel
theorem dX3_readPair_67 : decode cX3_readPair 67 = .ok (.aload_n 0, 1) := by decide +kernel
theorem dX3_readPair_68 : decode cX3_readPair 68 = .ok (.getfield 25, 3) := by decide +kernel
theorem dX3_readPair_71 : decode cX3_readPair 71 = .ok (.ifCond .ne 25, 3) := by decide +kernel
theorem dX3_readPair_74 : decode cX3_readPair 74 = .ok (.aload_n 0, 1) := by decide +kernel
theorem dX3_readPair_75 : decode cX3_readPair 75 = .ok (.getfield 34, 3) := by decide +kernel
theorem dX3_readPair_78 : decode cX3_readPair 78 = .ok (.iload_n 2, 1) := by decide +kernel
theorem dX3_readPair_79 : decode cX3_readPair 79 = .ok (.iload_n 3, 1) := by decide +kernel
theorem dX3_readPair_80 : decode cX3_readPair 80 = .ok (.iload 4, 2) := by decide +kernel
theorem dX3_readPair_82 : decode cX3_readPair 82 = .ok (.ifCond .eq 9, 3) := by decide +kernel
theorem dX3_readPair_85 : decode cX3_readPair 85 = .ok (.iload 5, 2) := by decide +kernel
theorem dX3_readPair_87 : decode cX3_readPair 87 = .ok (.ineg, 1) := by decide +kernel
theorem dX3_readPair_88 : decode cX3_readPair 88 = .ok (.goto 5, 3) := by decide +kernel
theorem dX3_readPair_91 : decode cX3_readPair 91 = .ok (.iload 5, 2) := by decide +kernel
theorem dX3_readPair_93 : decode cX3_readPair 93 = .ok (.invokevirtual 112, 3) := by decide +kernel
theorem dX3_readPair_96 : decode cX3_readPair 96 = .ok (.return_, 1) := by decide +kernel
theorem dX3_readTerm_0 : decode cX3_readTerm 0 = .ok (.aload_n 0, 1) := by decide +kernel
theorem dX3_readTerm_1 : decode cX3_readTerm 1 = .ok (.getstatic 116, 3) := by decide +kernel
theorem dX3_readTerm_4 : decode cX3_readTerm 4 = .ok (.iload_n 1, 1) := by decide +kernel
theorem dX3_readTerm_5 : decode cX3_readTerm 5 = .ok (.iaload, 1) := by decide +kernel
theorem dX3_readTerm_6 : decode cX3_readTerm 6 = .ok (.getstatic 120, 3) := by decide +kernel
theorem dX3_readTerm_9 : decode cX3_readTerm 9 = .ok (.iload_n 1, 1) := by decide +kernel
theorem dX3_readTerm_10 : decode cX3_readTerm 10 = .ok (.iaload, 1) := by decide +kernel
theorem dX3_readTerm_11 : decode cX3_readTerm 11 = .ok (.invokevirtual 108, 3) := by decide +kernel
theorem dX3_readTerm_14 : decode cX3_readTerm 14 = .ok (.istore_n 2, 1) := by decide +kernel
theorem dX3_readTerm_15 : decode cX3_readTerm 15 = .ok (.aload_n 0, 1) := by decide +kernel
theorem dX3_readTerm_16 : decode cX3_readTerm 16 = .ok (.bipush 59, 2) := by decide +kernel
theorem dX3_readTerm_18 : decode cX3_readTerm 18 = .ok (.invokevirtual 90, 3) := by decide +kernel
theorem dX3_readTerm_21 : decode cX3_readTerm 21 = .ok (.aload_n 0, 1) := by decide +kernel
theorem dX3_readTerm_22 : decode cX3_readTerm 22 = .ok (.getfield 25, 3) := by decide +kernel
theorem dX3_readTerm_25 : decode cX3_readTerm 25 = .ok (.ifCond .ne 12, 3) := by decide +kernel
theorem dX3_readTerm_28 : decode cX3_readTerm 28 = .ok (.aload_n 0, 1) := by decide +kernel
theorem dX3_readTerm_29 : decode cX3_readTerm 29 = .ok (.getfield 34, 3) := by decide +kernel
theorem dX3_readTerm_32 : decode cX3_readTerm 32 = .ok (.iload_n 1, 1) := by decide +kernel
theorem dX3_readTerm_33 : decode cX3_readTerm 33 = .ok (.iload_n 2, 1) := by decide +kernel
theorem dX3_readTerm_34 : decode cX3_readTerm 34 = .ok (.invokevirtual 123, 3) := by decide +kernel
theorem dX3_readTerm_37 : decode cX3_readTerm 37 = .ok (.return_, 1) := by decide +kernel
theorem dX3_readBy_0 : decode cX3_readBy 0 = .ok (.aload_n 0, 1) := by decide +kernel
theorem dX3_readBy_1 : decode cX3_readBy 1 = .ok (.invokevirtual 42, 3) := by decide +kernel
theorem dX3_readBy_4 : decode cX3_readBy 4 = .ok (.aload_n 0, 1) := by decide +kernel
theorem dX3_readBy_5 : decode cX3_readBy 5 = .ok (.getfield 19, 3) := by decide +kernel
theorem dX3_readBy_8 : decode cX3_readBy 8 = .ok (.istore_n 1, 1) := by decide +kernel
theorem dX3_readBy_9 : decode cX3_readBy 9 = .ok (.aload_n 0, 1) := by decide +kernel
theorem dX3_readBy_10 : decode cX3_readBy 10 = .ok (.invokevirtual 48, 3) := by decide +kernel
theorem dX3_readBy_13 : decode cX3_readBy 13 = .ok (.istore_n 2, 1) := by decide +kernel
theorem dX3_readBy_14 : decode cX3_readBy 14 = .ok (.iconst 0, 1) := by decide +kernel
theorem dX3_readBy_15 : decode cX3_readBy 15 = .ok (.istore_n 3, 1) := by decide +kernel
theorem dX3_readBy_16 : decode cX3_readBy 16 = .ok (.aload_n 0, 1) := by decide +kernel
theorem dX3_readBy_17 : decode cX3_readBy 17 = .ok (.iload_n 1, 1) := by decide +kernel
theorem dX3_readBy_18 : decode cX3_readBy 18 = .ok (.iload_n 2, 1) := by decide +kernel
theorem dX3_readBy_19 : decode cX3_readBy 19 = .ok (.ldc 126, 2) := by decide +kernel
theorem dX3_readBy_21 : decode cX3_readBy 21 = .ok (.invokevirtual 65, 3) := by decide +kernel
theorem dX3_readBy_24 : decode cX3_readBy 24 = .ok (.ifCond .eq 8, 3) := by decide +kernel
theorem dX3_readBy_27 : decode cX3_readBy 27 = .ok (.iconst 1, 1) := by decide +kernel
theorem dX3_readBy_28 : decode cX3_readBy 28 = .ok (.istore_n 3, 1) := by decide +kernel
theorem dX3_readBy_29 : decode cX3_readBy 29 = .ok (.goto 36, 3) := by decide +kernel
theorem dX3_readBy_32 : decode cX3_readBy 32 = .ok (.aload_n 0, 1) := by decide +kernel
theorem dX3_readBy_33 : decode cX3_readBy 33 = .ok (.iload_n 1, 1) := by decide +kernel
theorem dX3_readBy_34 : decode cX3_readBy 34 = .ok (.iload_n 2, 1) := by decide +kernel
theorem dX3_readBy_35 : decode cX3_readBy 35 = .ok (.ldc 128, 2) := by decide +kernel
theorem dX3_readBy_37 : decode cX3_readBy 37 = .ok (.invokevirtual 65, 3) := by decide +kernel
theorem dX3_readBy_40 : decode cX3_readBy 40 = .ok (.ifCond .eq 8, 3) := by decide +kernel
theorem dX3_readBy_43 : decode cX3_readBy 43 = .ok (.iconst 2, 1) := by decide +kernel
theorem dX3_readBy_44 : decode cX3_readBy 44 = .ok (.istore_n 3, 1) := by decide +kernel
theorem dX3_readBy_45 : decode cX3_readBy 45 = .ok (.goto 20, 3) := by decide +kernel
theorem dX3_readBy_48 : decode cX3_readBy 48 = .ok (.aload_n 0, 1) := by decide +kernel
theorem dX3_readBy_49 : decode cX3_readBy 49 = .ok (.iload_n 1, 1) := by decide +kernel
theorem dX3_readBy_50 : decode cX3_readBy 50 = .ok (.iload_n 2, 1) := by decide +kernel
theorem dX3_readBy_51 : decode cX3_readBy 51 = .ok (.ldc 130, 2) := by decide +kernel
theorem dX3_readBy_53 : decode cX3_readBy 53 = .ok (.invokevirtual 65, 3) := by decide +kernel
theorem dX3_readBy_56 : decode cX3_readBy 56 = .ok (.ifCond .ne 9, 3) := by decide +kernel
theorem dX3_readBy_59 : decode cX3_readBy 59 = .ok (.aload_n 0, 1) := by decide +kernel
theorem dX3_readBy_60 : decode cX3_readBy 60 = .ok (.iconst 1, 1) := by decide +kernel
theorem dX3_readBy_61 : decode cX3_readBy 61 = .ok (.iload_n 1, 1) := by decide +kernel
theorem dX3_readBy_62 : decode cX3_readBy 62 = .ok (.invokevirtual 83, 3) := by decide +kernel
theorem dX3_readBy_65 : decode cX3_readBy 65 = .ok (.aload_n 0, 1) := by decide +kernel
theorem dX3_readBy_66 : decode cX3_readBy 66 = .ok (.bipush 59, 2) := by decide +kernel
theorem dX3_readBy_68 : decode cX3_readBy 68 = .ok (.invokevirtual 90, 3) := by decide +kernel
theorem dX3_readBy_71 : decode cX3_readBy 71 = .ok (.aload_n 0, 1) := by decide +kernel
theorem dX3_readBy_72 : decode cX3_readBy 72 = .ok (.getfield 25, 3) := by decide +kernel
theorem dX3_readBy_75 : decode cX3_readBy 75 = .ok (.ifCond .ne 12, 3) := by decide +kernel
theorem dX3_readBy_78 : decode cX3_readBy 78 = .ok (.aload_n 0, 1) := by decide +kernel
theorem dX3_readBy_79 : decode cX3_readBy 79 = .ok (.getfield 34, 3) := by decide +kernel
theorem dX3_readBy_82 : decode cX3_readBy 82 = .ok (.iconst 4, 1) := by decide +kernel
theorem dX3_readBy_83 : decode cX3_readBy 83 = .ok (.iload_n 3, 1) := by decide +kernel
theorem dX3_readBy_84 : decode cX3_readBy 84 = .ok (.invokevirtual 123, 3) := by decide +kernel
theorem dX3_readBy_87 : decode cX3_readBy 87 = .ok (.return_, 1) := by decide +kernel
theorem dX3_readEdge_0 : decode cX3_readEdge 0 = .ok (.aload_n 0, 1) := by decide +kernel
theorem dX3_readEdge_1 : decode cX3_readEdge 1 = .ok (.invokevirtual 42, 3) := by decide +kernel
theorem dX3_readEdge_4 : decode cX3_readEdge 4 = .ok (.iconst 0, 1) := by decide +kernel
theorem dX3_readEdge_5 : decode cX3_readEdge 5 = .ok (.istore_n 1, 1) := by decide +kernel
theorem dX3_readEdge_6 : decode cX3_readEdge 6 = .ok (.iconst 0, 1) := by decide +kernel
theorem dX3_readEdge_7 : decode cX3_readEdge 7 = .ok (.istore_n 2, 1) := by decide +kernel
theorem dX3_readEdge_8 : decode cX3_readEdge 8 = .ok (.iload_n 2, 1) := by decide +kernel
theorem dX3_readEdge_9 : decode cX3_readEdge 9 = .ok (.iconst 5, 1) := by decide +kernel
theorem dX3_readEdge_10 : decode cX3_readEdge 10 = .ok (.if_icmp .ge 67, 3) := by decide +kernel
theorem dX3_readEdge_13 : decode cX3_readEdge 13 = .ok (.aload_n 0, 1) := by decide +kernel
theorem dX3_readEdge_14 : decode cX3_readEdge 14 = .ok (.getfield 25, 3) := by decide +kernel
theorem dX3_readEdge_17 : decode cX3_readEdge 17 = .ok (.ifCond .ne 60, 3) := by decide +kernel
theorem dX3_readEdge_20 : decode cX3_readEdge 20 = .ok (.aload_n 0, 1) := by decide +kernel
theorem dX3_readEdge_21 : decode cX3_readEdge 21 = .ok (.aload_n 0, 1) := by decide +kernel
theorem dX3_readEdge_22 : decode cX3_readEdge 22 = .ok (.getfield 19, 3) := by decide +kernel
theorem dX3_readEdge_25 : decode cX3_readEdge 25 = .ok (.invokevirtual 132, 3) := by decide +kernel
theorem dX3_readEdge_28 : decode cX3_readEdge 28 = .ok (.ifCond .eq 34, 3) := by decide +kernel
theorem dX3_readEdge_31 : decode cX3_readEdge 31 = .ok (.bipush 10, 2) := by decide +kernel
theorem dX3_readEdge_33 : decode cX3_readEdge 33 = .ok (.iload_n 1, 1) := by decide +kernel
theorem dX3_readEdge_34 : decode cX3_readEdge 34 = .ok (.imul, 1) := by decide +kernel
theorem dX3_readEdge_35 : decode cX3_readEdge 35 = .ok (.aload_n 0, 1) := by decide +kernel
theorem dX3_readEdge_36 : decode cX3_readEdge 36 = .ok (.getfield 9, 3) := by decide +kernel
theorem dX3_readEdge_39 : decode cX3_readEdge 39 = .ok (.aload_n 0, 1) := by decide +kernel
theorem dX3_readEdge_40 : decode cX3_readEdge 40 = .ok (.getfield 19, 3) := by decide +kernel
theorem dX3_readEdge_43 : decode cX3_readEdge 43 = .ok (.caload, 1) := by decide +kernel
theorem dX3_readEdge_44 : decode cX3_readEdge 44 = .ok (.iadd, 1) := by decide +kernel
theorem dX3_readEdge_45 : decode cX3_readEdge 45 = .ok (.bipush 48, 2) := by decide +kernel
theorem dX3_readEdge_47 : decode cX3_readEdge 47 = .ok (.isub, 1) := by decide +kernel
theorem dX3_readEdge_48 : decode cX3_readEdge 48 = .ok (.istore_n 1, 1) := by decide +kernel
theorem dX3_readEdge_49 : decode cX3_readEdge 49 = .ok (.aload_n 0, 1) := by decide +kernel
theorem dX3_readEdge_50 : decode cX3_readEdge 50 = .ok (.dup, 1) := by decide +kernel
theorem dX3_readEdge_51 : decode cX3_readEdge 51 = .ok (.getfield 19, 3) := by decide +kernel
theorem dX3_readEdge_54 : decode cX3_readEdge 54 = .ok (.iconst 1, 1) := by decide +kernel
theorem dX3_readEdge_55 : decode cX3_readEdge 55 = .ok (.iadd, 1) := by decide +kernel
theorem dX3_readEdge_56 : decode cX3_readEdge 56 = .ok (.putfield 19, 3) := by decide +kernel
theorem dX3_readEdge_59 : decode cX3_readEdge 59 = .ok (.goto 12, 3) := by decide +kernel
theorem dX3_readEdge_62 : decode cX3_readEdge 62 = .ok (.aload_n 0, 1) := by decide +kernel
theorem dX3_readEdge_63 : decode cX3_readEdge 63 = .ok (.iconst 1, 1) := by decide +kernel
theorem dX3_readEdge_64 : decode cX3_readEdge 64 = .ok (.aload_n 0, 1) := by decide +kernel
theorem dX3_readEdge_65 : decode cX3_readEdge 65 = .ok (.getfield 19, 3) := by decide +kernel
theorem dX3_readEdge_68 : decode cX3_readEdge 68 = .ok (.invokevirtual 83, 3) := by decide +kernel
theorem dX3_readEdge_71 : decode cX3_readEdge 71 = .ok (.iinc 2 1, 3) := by decide +kernel
theorem dX3_readEdge_74 : decode cX3_readEdge 74 = .ok (.goto (-66), 3) := by decide +kernel
theorem dX3_readEdge_77 : decode cX3_readEdge 77 = .ok (.iload_n 1, 1) := by decide +kernel
theorem dX3_readEdge_78 : decode cX3_readEdge 78 = .ok (.ireturn, 1) := by decide +kernel
theorem dX3_readWidth_0 : decode cX3_readWidth 0 = .ok (.aload_n 0, 1) := by decide +kernel
theorem dX3_readWidth_1 : decode cX3_readWidth 1 = .ok (.invokevirtual 42, 3) := by decide +kernel
theorem dX3_readWidth_4 : decode cX3_readWidth 4 = .ok (.aload_n 0, 1) := by decide +kernel
theorem dX3_readWidth_5 : decode cX3_readWidth 5 = .ok (.aload_n 0, 1) := by decide +kernel
theorem dX3_readWidth_6 : decode cX3_readWidth 6 = .ok (.getfield 19, 3) := by decide +kernel
theorem dX3_readWidth_9 : decode cX3_readWidth 9 = .ok (.invokevirtual 132, 3) := by decide +kernel
theorem dX3_readWidth_12 : decode cX3_readWidth 12 = .ok (.ifCond .eq 17, 3) := by decide +kernel
theorem dX3_readWidth_15 : decode cX3_readWidth 15 = .ok (.aload_n 0, 1) := by decide +kernel
theorem dX3_readWidth_16 : decode cX3_readWidth 16 = .ok (.getfield 9, 3) := by decide +kernel
theorem dX3_readWidth_19 : decode cX3_readWidth 19 = .ok (.aload_n 0, 1) := by decide +kernel
theorem dX3_readWidth_20 : decode cX3_readWidth 20 = .ok (.getfield 19, 3) := by decide +kernel
theorem dX3_readWidth_23 : decode cX3_readWidth 23 = .ok (.caload, 1) := by decide +kernel
theorem dX3_readWidth_24 : decode cX3_readWidth 24 = .ok (.bipush 48, 2) := by decide +kernel
theorem dX3_readWidth_26 : decode cX3_readWidth 26 = .ok (.if_icmp .ne 14, 3) := by decide +kernel
theorem dX3_readWidth_29 : decode cX3_readWidth 29 = .ok (.aload_n 0, 1) := by decide +kernel
theorem dX3_readWidth_30 : decode cX3_readWidth 30 = .ok (.iconst 1, 1) := by decide +kernel
theorem dX3_readWidth_31 : decode cX3_readWidth 31 = .ok (.aload_n 0, 1) := by decide +kernel
theorem dX3_readWidth_32 : decode cX3_readWidth 32 = .ok (.getfield 19, 3) := by decide +kernel
theorem dX3_readWidth_35 : decode cX3_readWidth 35 = .ok (.invokevirtual 83, 3) := by decide +kernel
theorem dX3_readWidth_38 : decode cX3_readWidth 38 = .ok (.iconst 0, 1) := by decide +kernel
theorem dX3_readWidth_39 : decode cX3_readWidth 39 = .ok (.ireturn, 1) := by decide +kernel
theorem dX3_readWidth_40 : decode cX3_readWidth 40 = .ok (.aload_n 0, 1) := by decide +kernel
theorem dX3_readWidth_41 : decode cX3_readWidth 41 = .ok (.getfield 9, 3) := by decide +kernel
theorem dX3_readWidth_44 : decode cX3_readWidth 44 = .ok (.aload_n 0, 1) := by decide +kernel
theorem dX3_readWidth_45 : decode cX3_readWidth 45 = .ok (.getfield 19, 3) := by decide +kernel
theorem dX3_readWidth_48 : decode cX3_readWidth 48 = .ok (.caload, 1) := by decide +kernel
theorem dX3_readWidth_49 : decode cX3_readWidth 49 = .ok (.bipush 48, 2) := by decide +kernel
theorem dX3_readWidth_51 : decode cX3_readWidth 51 = .ok (.isub, 1) := by decide +kernel
theorem dX3_readWidth_52 : decode cX3_readWidth 52 = .ok (.istore_n 1, 1) := by decide +kernel
theorem dX3_readWidth_53 : decode cX3_readWidth 53 = .ok (.aload_n 0, 1) := by decide +kernel
theorem dX3_readWidth_54 : decode cX3_readWidth 54 = .ok (.dup, 1) := by decide +kernel
theorem dX3_readWidth_55 : decode cX3_readWidth 55 = .ok (.getfield 19, 3) := by decide +kernel
theorem dX3_readWidth_58 : decode cX3_readWidth 58 = .ok (.iconst 1, 1) := by decide +kernel
theorem dX3_readWidth_59 : decode cX3_readWidth 59 = .ok (.iadd, 1) := by decide +kernel
theorem dX3_readWidth_60 : decode cX3_readWidth 60 = .ok (.putfield 19, 3) := by decide +kernel
theorem dX3_readWidth_63 : decode cX3_readWidth 63 = .ok (.iload_n 1, 1) := by decide +kernel
theorem dX3_readWidth_64 : decode cX3_readWidth 64 = .ok (.ireturn, 1) := by decide +kernel
theorem dX3_readNumber_0 : decode cX3_readNumber 0 = .ok (.aload_n 0, 1) := by decide +kernel
theorem dX3_readNumber_1 : decode cX3_readNumber 1 = .ok (.invokevirtual 42, 3) := by decide +kernel
theorem dX3_readNumber_4 : decode cX3_readNumber 4 = .ok (.aload_n 0, 1) := by decide +kernel
theorem dX3_readNumber_5 : decode cX3_readNumber 5 = .ok (.getfield 19, 3) := by decide +kernel
theorem dX3_readNumber_8 : decode cX3_readNumber 8 = .ok (.istore_n 3, 1) := by decide +kernel
theorem dX3_readNumber_9 : decode cX3_readNumber 9 = .ok (.iconst 0, 1) := by decide +kernel
theorem dX3_readNumber_10 : decode cX3_readNumber 10 = .ok (.istore 4, 2) := by decide +kernel
theorem dX3_readNumber_12 : decode cX3_readNumber 12 = .ok (.iconst 0, 1) := by decide +kernel
theorem dX3_readNumber_13 : decode cX3_readNumber 13 = .ok (.istore 5, 2) := by decide +kernel
theorem dX3_readNumber_15 : decode cX3_readNumber 15 = .ok (.iload 5, 2) := by decide +kernel
theorem dX3_readNumber_17 : decode cX3_readNumber 17 = .ok (.iconst 3, 1) := by decide +kernel
theorem dX3_readNumber_18 : decode cX3_readNumber 18 = .ok (.if_icmp .ge 50, 3) := by decide +kernel
theorem dX3_readNumber_21 : decode cX3_readNumber 21 = .ok (.aload_n 0, 1) := by decide +kernel
theorem dX3_readNumber_22 : decode cX3_readNumber 22 = .ok (.aload_n 0, 1) := by decide +kernel
theorem dX3_readNumber_23 : decode cX3_readNumber 23 = .ok (.getfield 19, 3) := by decide +kernel
theorem dX3_readNumber_26 : decode cX3_readNumber 26 = .ok (.invokevirtual 132, 3) := by decide +kernel
theorem dX3_readNumber_29 : decode cX3_readNumber 29 = .ok (.ifCond .eq 39, 3) := by decide +kernel
theorem dX3_readNumber_32 : decode cX3_readNumber 32 = .ok (.bipush 10, 2) := by decide +kernel
theorem dX3_readNumber_34 : decode cX3_readNumber 34 = .ok (.iload 4, 2) := by decide +kernel
theorem dX3_readNumber_36 : decode cX3_readNumber 36 = .ok (.imul, 1) := by decide +kernel
theorem dX3_readNumber_37 : decode cX3_readNumber 37 = .ok (.aload_n 0, 1) := by decide +kernel
theorem dX3_readNumber_38 : decode cX3_readNumber 38 = .ok (.getfield 9, 3) := by decide +kernel
theorem dX3_readNumber_41 : decode cX3_readNumber 41 = .ok (.aload_n 0, 1) := by decide +kernel
theorem dX3_readNumber_42 : decode cX3_readNumber 42 = .ok (.getfield 19, 3) := by decide +kernel
theorem dX3_readNumber_45 : decode cX3_readNumber 45 = .ok (.caload, 1) := by decide +kernel
theorem dX3_readNumber_46 : decode cX3_readNumber 46 = .ok (.iadd, 1) := by decide +kernel
theorem dX3_readNumber_47 : decode cX3_readNumber 47 = .ok (.bipush 48, 2) := by decide +kernel
theorem dX3_readNumber_49 : decode cX3_readNumber 49 = .ok (.isub, 1) := by decide +kernel
theorem dX3_readNumber_50 : decode cX3_readNumber 50 = .ok (.istore 4, 2) := by decide +kernel
theorem dX3_readNumber_52 : decode cX3_readNumber 52 = .ok (.aload_n 0, 1) := by decide +kernel
theorem dX3_readNumber_53 : decode cX3_readNumber 53 = .ok (.dup, 1) := by decide +kernel
theorem dX3_readNumber_54 : decode cX3_readNumber 54 = .ok (.getfield 19, 3) := by decide +kernel
theorem dX3_readNumber_57 : decode cX3_readNumber 57 = .ok (.iconst 1, 1) := by decide +kernel
theorem dX3_readNumber_58 : decode cX3_readNumber 58 = .ok (.iadd, 1) := by decide +kernel
theorem dX3_readNumber_59 : decode cX3_readNumber 59 = .ok (.putfield 19, 3) := by decide +kernel
theorem dX3_readNumber_62 : decode cX3_readNumber 62 = .ok (.iinc 5 1, 3) := by decide +kernel
theorem dX3_readNumber_65 : decode cX3_readNumber 65 = .ok (.goto (-50), 3) := by decide +kernel
theorem dX3_readNumber_68 : decode cX3_readNumber 68 = .ok (.aload_n 0, 1) := by decide +kernel
theorem dX3_readNumber_69 : decode cX3_readNumber 69 = .ok (.getfield 19, 3) := by decide +kernel
theorem dX3_readNumber_72 : decode cX3_readNumber 72 = .ok (.iload_n 3, 1) := by decide +kernel
theorem dX3_readNumber_73 : decode cX3_readNumber 73 = .ok (.if_icmp .ne 12, 3) := by decide +kernel
theorem dX3_readNumber_76 : decode cX3_readNumber 76 = .ok (.aload_n 0, 1) := by decide +kernel
theorem dX3_readNumber_77 : decode cX3_readNumber 77 = .ok (.iconst 1, 1) := by decide +kernel
theorem dX3_readNumber_78 : decode cX3_readNumber 78 = .ok (.iload_n 3, 1) := by decide +kernel
theorem dX3_readNumber_79 : decode cX3_readNumber 79 = .ok (.invokevirtual 83, 3) := by decide +kernel
theorem dX3_readNumber_82 : decode cX3_readNumber 82 = .ok (.goto 31, 3) := by decide +kernel
theorem dX3_readNumber_85 : decode cX3_readNumber 85 = .ok (.aload_n 0, 1) := by decide +kernel
theorem dX3_readNumber_86 : decode cX3_readNumber 86 = .ok (.getfield 19, 3) := by decide +kernel
theorem dX3_readNumber_89 : decode cX3_readNumber 89 = .ok (.iload_n 3, 1) := by decide +kernel
theorem dX3_readNumber_90 : decode cX3_readNumber 90 = .ok (.isub, 1) := by decide +kernel
theorem dX3_readNumber_91 : decode cX3_readNumber 91 = .ok (.iconst 2, 1) := by decide +kernel
theorem dX3_readNumber_92 : decode cX3_readNumber 92 = .ok (.if_icmp .gt 15, 3) := by decide +kernel
theorem dX3_readNumber_95 : decode cX3_readNumber 95 = .ok (.iload 4, 2) := by decide +kernel
theorem dX3_readNumber_97 : decode cX3_readNumber 97 = .ok (.iload_n 1, 1) := by decide +kernel
theorem dX3_readNumber_98 : decode cX3_readNumber 98 = .ok (.if_icmp .lt 9, 3) := by decide +kernel
theorem dX3_readNumber_101 : decode cX3_readNumber 101 = .ok (.iload 4, 2) := by decide +kernel
theorem dX3_readNumber_103 : decode cX3_readNumber 103 = .ok (.iload_n 2, 1) := by decide +kernel
theorem dX3_readNumber_104 : decode cX3_readNumber 104 = .ok (.if_icmp .le 9, 3) := by decide +kernel
theorem dX3_readNumber_107 : decode cX3_readNumber 107 = .ok (.aload_n 0, 1) := by decide +kernel
theorem dX3_readNumber_108 : decode cX3_readNumber 108 = .ok (.iconst 2, 1) := by decide +kernel
theorem dX3_readNumber_109 : decode cX3_readNumber 109 = .ok (.iload_n 3, 1) := by decide +kernel
theorem dX3_readNumber_110 : decode cX3_readNumber 110 = .ok (.invokevirtual 83, 3) := by decide +kernel
theorem dX3_readNumber_113 : decode cX3_readNumber 113 = .ok (.iload 4, 2) := by decide +kernel
theorem dX3_readNumber_115 : decode cX3_readNumber 115 = .ok (.ireturn, 1) := by decide +kernel
theorem dX3_pass_0 : decode cX3_pass 0 = .ok (.aload_n 0, 1) := by decide +kernel
theorem dX3_pass_1 : decode cX3_pass 1 = .ok (.invokevirtual 42, 3) := by decide +kernel
theorem dX3_pass_4 : decode cX3_pass 4 = .ok (.aload_n 0, 1) := by decide +kernel
theorem dX3_pass_5 : decode cX3_pass 5 = .ok (.getfield 19, 3) := by decide +kernel
theorem dX3_pass_8 : decode cX3_pass 8 = .ok (.aload_n 0, 1) := by decide +kernel
theorem dX3_pass_9 : decode cX3_pass 9 = .ok (.getfield 15, 3) := by decide +kernel
theorem dX3_pass_12 : decode cX3_pass 12 = .ok (.if_icmp .ge 29, 3) := by decide +kernel
theorem dX3_pass_15 : decode cX3_pass 15 = .ok (.aload_n 0, 1) := by decide +kernel
theorem dX3_pass_16 : decode cX3_pass 16 = .ok (.getfield 9, 3) := by decide +kernel
theorem dX3_pass_19 : decode cX3_pass 19 = .ok (.aload_n 0, 1) := by decide +kernel
theorem dX3_pass_20 : decode cX3_pass 20 = .ok (.getfield 19, 3) := by decide +kernel
theorem dX3_pass_23 : decode cX3_pass 23 = .ok (.caload, 1) := by decide +kernel
theorem dX3_pass_24 : decode cX3_pass 24 = .ok (.iload_n 1, 1) := by decide +kernel
theorem dX3_pass_25 : decode cX3_pass 25 = .ok (.if_icmp .ne 16, 3) := by decide +kernel
theorem dX3_pass_28 : decode cX3_pass 28 = .ok (.aload_n 0, 1) := by decide +kernel
theorem dX3_pass_29 : decode cX3_pass 29 = .ok (.dup, 1) := by decide +kernel
theorem dX3_pass_30 : decode cX3_pass 30 = .ok (.getfield 19, 3) := by decide +kernel
theorem dX3_pass_33 : decode cX3_pass 33 = .ok (.iconst 1, 1) := by decide +kernel
theorem dX3_pass_34 : decode cX3_pass 34 = .ok (.iadd, 1) := by decide +kernel
theorem dX3_pass_35 : decode cX3_pass 35 = .ok (.putfield 19, 3) := by decide +kernel
theorem dX3_pass_38 : decode cX3_pass 38 = .ok (.goto 12, 3) := by decide +kernel
theorem dX3_pass_41 : decode cX3_pass 41 = .ok (.aload_n 0, 1) := by decide +kernel
theorem dX3_pass_42 : decode cX3_pass 42 = .ok (.iconst 1, 1) := by decide +kernel
theorem dX3_pass_43 : decode cX3_pass 43 = .ok (.aload_n 0, 1) := by decide +kernel
theorem dX3_pass_44 : decode cX3_pass 44 = .ok (.getfield 19, 3) := by decide +kernel
theorem dX3_pass_47 : decode cX3_pass 47 = .ok (.invokevirtual 83, 3) := by decide +kernel
theorem dX3_pass_50 : decode cX3_pass 50 = .ok (.return_, 1) := by decide +kernel
theorem dX3_passMinus_0 : decode cX3_passMinus 0 = .ok (.aload_n 0, 1) := by decide +kernel
theorem dX3_passMinus_1 : decode cX3_passMinus 1 = .ok (.invokevirtual 42, 3) := by decide +kernel
theorem dX3_passMinus_4 : decode cX3_passMinus 4 = .ok (.aload_n 0, 1) := by decide +kernel
theorem dX3_passMinus_5 : decode cX3_passMinus 5 = .ok (.getfield 19, 3) := by decide +kernel
theorem dX3_passMinus_8 : decode cX3_passMinus 8 = .ok (.aload_n 0, 1) := by decide +kernel
theorem dX3_passMinus_9 : decode cX3_passMinus 9 = .ok (.getfield 15, 3) := by decide +kernel
theorem dX3_passMinus_12 : decode cX3_passMinus 12 = .ok (.if_icmp .ge 29, 3) := by decide +kernel
theorem dX3_passMinus_15 : decode cX3_passMinus 15 = .ok (.aload_n 0, 1) := by decide +kernel
theorem dX3_passMinus_16 : decode cX3_passMinus 16 = .ok (.getfield 9, 3) := by decide +kernel
theorem dX3_passMinus_19 : decode cX3_passMinus 19 = .ok (.aload_n 0, 1) := by decide +kernel
theorem dX3_passMinus_20 : decode cX3_passMinus 20 = .ok (.getfield 19, 3) := by decide +kernel
theorem dX3_passMinus_23 : decode cX3_passMinus 23 = .ok (.caload, 1) := by decide +kernel
theorem dX3_passMinus_24 : decode cX3_passMinus 24 = .ok (.bipush 45, 2) := by decide +kernel
theorem dX3_passMinus_26 : decode cX3_passMinus 26 = .ok (.if_icmp .ne 15, 3) := by decide +kernel
theorem dX3_passMinus_29 : decode cX3_passMinus 29 = .ok (.aload_n 0, 1) := by decide +kernel
theorem dX3_passMinus_30 : decode cX3_passMinus 30 = .ok (.dup, 1) := by decide +kernel
theorem dX3_passMinus_31 : decode cX3_passMinus 31 = .ok (.getfield 19, 3) := by decide +kernel
theorem dX3_passMinus_34 : decode cX3_passMinus 34 = .ok (.iconst 1, 1) := by decide +kernel
theorem dX3_passMinus_35 : decode cX3_passMinus 35 = .ok (.iadd, 1) := by decide +kernel
theorem dX3_passMinus_36 : decode cX3_passMinus 36 = .ok (.putfield 19, 3) := by decide +kernel
theorem dX3_passMinus_39 : decode cX3_passMinus 39 = .ok (.iconst 1, 1) := by decide +kernel
theorem dX3_passMinus_40 : decode cX3_passMinus 40 = .ok (.ireturn, 1) := by decide +kernel
theorem dX3_passMinus_41 : decode cX3_passMinus 41 = .ok (.iconst 0, 1) := by decide +kernel
theorem dX3_passMinus_42 : decode cX3_passMinus 42 = .ok (.ireturn, 1) := by decide +kernel
theorem dX3_passWord_0 : decode cX3_passWord 0 = .ok (.aload_n 0, 1) := by decide +kernel
theorem dX3_passWord_1 : decode cX3_passWord 1 = .ok (.getfield 19, 3) := by decide +kernel
theorem dX3_passWord_4 : decode cX3_passWord 4 = .ok (.istore_n 1, 1) := by decide +kernel
theorem dX3_passWord_5 : decode cX3_passWord 5 = .ok (.aload_n 0, 1) := by decide +kernel
theorem dX3_passWord_6 : decode cX3_passWord 6 = .ok (.getfield 19, 3) := by decide +kernel
theorem dX3_passWord_9 : decode cX3_passWord 9 = .ok (.aload_n 0, 1) := by decide +kernel
theorem dX3_passWord_10 : decode cX3_passWord 10 = .ok (.getfield 15, 3) := by decide +kernel
theorem dX3_passWord_13 : decode cX3_passWord 13 = .ok (.if_icmp .ge 44, 3) := by decide +kernel
theorem dX3_passWord_16 : decode cX3_passWord 16 = .ok (.aload_n 0, 1) := by decide +kernel
theorem dX3_passWord_17 : decode cX3_passWord 17 = .ok (.getfield 9, 3) := by decide +kernel
theorem dX3_passWord_20 : decode cX3_passWord 20 = .ok (.aload_n 0, 1) := by decide +kernel
theorem dX3_passWord_21 : decode cX3_passWord 21 = .ok (.getfield 19, 3) := by decide +kernel
theorem dX3_passWord_24 : decode cX3_passWord 24 = .ok (.caload, 1) := by decide +kernel
theorem dX3_passWord_25 : decode cX3_passWord 25 = .ok (.bipush 97, 2) := by decide +kernel
theorem dX3_passWord_27 : decode cX3_passWord 27 = .ok (.if_icmp .lt 30, 3) := by decide +kernel
theorem dX3_passWord_30 : decode cX3_passWord 30 = .ok (.aload_n 0, 1) := by decide +kernel
theorem dX3_passWord_31 : decode cX3_passWord 31 = .ok (.getfield 9, 3) := by decide +kernel
theorem dX3_passWord_34 : decode cX3_passWord 34 = .ok (.aload_n 0, 1) := by decide +kernel
theorem dX3_passWord_35 : decode cX3_passWord 35 = .ok (.getfield 19, 3) := by decide +kernel
theorem dX3_passWord_38 : decode cX3_passWord 38 = .ok (.caload, 1) := by decide +kernel
theorem dX3_passWord_39 : decode cX3_passWord 39 = .ok (.bipush 122, 2) := by decide +kernel
theorem dX3_passWord_41 : decode cX3_passWord 41 = .ok (.if_icmp .gt 16, 3) := by decide +kernel
theorem dX3_passWord_44 : decode cX3_passWord 44 = .ok (.aload_n 0, 1) := by decide +kernel
theorem dX3_passWord_45 : decode cX3_passWord 45 = .ok (.dup, 1) := by decide +kernel
theorem dX3_passWord_46 : decode cX3_passWord 46 = .ok (.getfield 19, 3) := by decide +kernel
theorem dX3_passWord_49 : decode cX3_passWord 49 = .ok (.iconst 1, 1) := by decide +kernel
theorem dX3_passWord_50 : decode cX3_passWord 50 = .ok (.iadd, 1) := by decide +kernel
theorem dX3_passWord_51 : decode cX3_passWord 51 = .ok (.putfield 19, 3) := by decide +kernel
theorem dX3_passWord_54 : decode cX3_passWord 54 = .ok (.goto (-49), 3) := by decide +kernel
theorem dX3_passWord_57 : decode cX3_passWord 57 = .ok (.aload_n 0, 1) := by decide +kernel
theorem dX3_passWord_58 : decode cX3_passWord 58 = .ok (.getfield 19, 3) := by decide +kernel
theorem dX3_passWord_61 : decode cX3_passWord 61 = .ok (.iload_n 1, 1) := by decide +kernel
theorem dX3_passWord_62 : decode cX3_passWord 62 = .ok (.isub, 1) := by decide +kernel
theorem dX3_passWord_63 : decode cX3_passWord 63 = .ok (.ireturn, 1) := by decide +kernel
theorem dX3_skipBlanks_0 : decode cX3_skipBlanks 0 = .ok (.aload_n 0, 1) := by decide +kernel
theorem dX3_skipBlanks_1 : decode cX3_skipBlanks 1 = .ok (.getfield 19, 3) := by decide +kernel
theorem dX3_skipBlanks_4 : decode cX3_skipBlanks 4 = .ok (.aload_n 0, 1) := by decide +kernel
theorem dX3_skipBlanks_5 : decode cX3_skipBlanks 5 = .ok (.getfield 15, 3) := by decide +kernel
theorem dX3_skipBlanks_8 : decode cX3_skipBlanks 8 = .ok (.if_icmp .ge 30, 3) := by decide +kernel
theorem dX3_skipBlanks_11 : decode cX3_skipBlanks 11 = .ok (.aload_n 0, 1) := by decide +kernel
theorem dX3_skipBlanks_12 : decode cX3_skipBlanks 12 = .ok (.getfield 9, 3) := by decide +kernel
theorem dX3_skipBlanks_15 : decode cX3_skipBlanks 15 = .ok (.aload_n 0, 1) := by decide +kernel
theorem dX3_skipBlanks_16 : decode cX3_skipBlanks 16 = .ok (.getfield 19, 3) := by decide +kernel
theorem dX3_skipBlanks_19 : decode cX3_skipBlanks 19 = .ok (.caload, 1) := by decide +kernel
theorem dX3_skipBlanks_20 : decode cX3_skipBlanks 20 = .ok (.bipush 32, 2) := by decide +kernel
theorem dX3_skipBlanks_22 : decode cX3_skipBlanks 22 = .ok (.if_icmp .ne 16, 3) := by decide +kernel
theorem dX3_skipBlanks_25 : decode cX3_skipBlanks 25 = .ok (.aload_n 0, 1) := by decide +kernel
theorem dX3_skipBlanks_26 : decode cX3_skipBlanks 26 = .ok (.dup, 1) := by decide +kernel
theorem dX3_skipBlanks_27 : decode cX3_skipBlanks 27 = .ok (.getfield 19, 3) := by decide +kernel
theorem dX3_skipBlanks_30 : decode cX3_skipBlanks 30 = .ok (.iconst 1, 1) := by decide +kernel
theorem dX3_skipBlanks_31 : decode cX3_skipBlanks 31 = .ok (.iadd, 1) := by decide +kernel
theorem dX3_skipBlanks_32 : decode cX3_skipBlanks 32 = .ok (.putfield 19, 3) := by decide +kernel
theorem dX3_skipBlanks_35 : decode cX3_skipBlanks 35 = .ok (.goto (-35), 3) := by decide +kernel
theorem dX3_skipBlanks_38 : decode cX3_skipBlanks 38 = .ok (.return_, 1) := by decide +kernel
theorem dX3_isLetter_0 : decode cX3_isLetter 0 = .ok (.iload_n 1, 1) := by decide +kernel
theorem dX3_isLetter_1 : decode cX3_isLetter 1 = .ok (.aload_n 0, 1) := by decide +kernel
theorem dX3_isLetter_2 : decode cX3_isLetter 2 = .ok (.getfield 15, 3) := by decide +kernel
theorem dX3_isLetter_5 : decode cX3_isLetter 5 = .ok (.if_icmp .ge 29, 3) := by decide +kernel
theorem dX3_isLetter_8 : decode cX3_isLetter 8 = .ok (.aload_n 0, 1) := by decide +kernel
theorem dX3_isLetter_9 : decode cX3_isLetter 9 = .ok (.getfield 9, 3) := by decide +kernel
theorem dX3_isLetter_12 : decode cX3_isLetter 12 = .ok (.iload_n 1, 1) := by decide +kernel
theorem dX3_isLetter_13 : decode cX3_isLetter 13 = .ok (.caload, 1) := by decide +kernel
theorem dX3_isLetter_14 : decode cX3_isLetter 14 = .ok (.bipush 97, 2) := by decide +kernel
theorem dX3_isLetter_16 : decode cX3_isLetter 16 = .ok (.if_icmp .lt 18, 3) := by decide +kernel
theorem dX3_isLetter_19 : decode cX3_isLetter 19 = .ok (.aload_n 0, 1) := by decide +kernel
theorem dX3_isLetter_20 : decode cX3_isLetter 20 = .ok (.getfield 9, 3) := by decide +kernel
theorem dX3_isLetter_23 : decode cX3_isLetter 23 = .ok (.iload_n 1, 1) := by decide +kernel
theorem dX3_isLetter_24 : decode cX3_isLetter 24 = .ok (.caload, 1) := by decide +kernel
theorem dX3_isLetter_25 : decode cX3_isLetter 25 = .ok (.bipush 105, 2) := by decide +kernel
theorem dX3_isLetter_27 : decode cX3_isLetter 27 = .ok (.if_icmp .ge 7, 3) := by decide +kernel
theorem dX3_isLetter_30 : decode cX3_isLetter 30 = .ok (.iconst 1, 1) := by decide +kernel
theorem dX3_isLetter_31 : decode cX3_isLetter 31 = .ok (.goto 4, 3) := by decide +kernel
theorem dX3_isLetter_34 : decode cX3_isLetter 34 = .ok (.iconst 0, 1) := by decide +kernel
theorem dX3_isLetter_35 : decode cX3_isLetter 35 = .ok (.ireturn, 1) := by decide +kernel
theorem dX3_isFigure_0 : decode cX3_isFigure 0 = .ok (.iload_n 1, 1) := by decide +kernel
theorem dX3_isFigure_1 : decode cX3_isFigure 1 = .ok (.aload_n 0, 1) := by decide +kernel
theorem dX3_isFigure_2 : decode cX3_isFigure 2 = .ok (.getfield 15, 3) := by decide +kernel
theorem dX3_isFigure_5 : decode cX3_isFigure 5 = .ok (.if_icmp .ge 29, 3) := by decide +kernel
theorem dX3_isFigure_8 : decode cX3_isFigure 8 = .ok (.aload_n 0, 1) := by decide +kernel
theorem dX3_isFigure_9 : decode cX3_isFigure 9 = .ok (.getfield 9, 3) := by decide +kernel
theorem dX3_isFigure_12 : decode cX3_isFigure 12 = .ok (.iload_n 1, 1) := by decide +kernel
theorem dX3_isFigure_13 : decode cX3_isFigure 13 = .ok (.caload, 1) := by decide +kernel
theorem dX3_isFigure_14 : decode cX3_isFigure 14 = .ok (.bipush 48, 2) := by decide +kernel
theorem dX3_isFigure_16 : decode cX3_isFigure 16 = .ok (.if_icmp .lt 18, 3) := by decide +kernel
theorem dX3_isFigure_19 : decode cX3_isFigure 19 = .ok (.aload_n 0, 1) := by decide +kernel
theorem dX3_isFigure_20 : decode cX3_isFigure 20 = .ok (.getfield 9, 3) := by decide +kernel
theorem dX3_isFigure_23 : decode cX3_isFigure 23 = .ok (.iload_n 1, 1) := by decide +kernel
theorem dX3_isFigure_24 : decode cX3_isFigure 24 = .ok (.caload, 1) := by decide +kernel
theorem dX3_isFigure_25 : decode cX3_isFigure 25 = .ok (.bipush 57, 2) := by decide +kernel
theorem dX3_isFigure_27 : decode cX3_isFigure 27 = .ok (.if_icmp .gt 7, 3) := by decide +kernel
theorem dX3_isFigure_30 : decode cX3_isFigure 30 = .ok (.iconst 1, 1) := by decide +kernel
theorem dX3_isFigure_31 : decode cX3_isFigure 31 = .ok (.goto 4, 3) := by decide +kernel
theorem dX3_isFigure_34 : decode cX3_isFigure 34 = .ok (.iconst 0, 1) := by decide +kernel
theorem dX3_isFigure_35 : decode cX3_isFigure 35 = .ok (.ireturn, 1) := by decide +kernel
theorem dX3_isWord_0 : decode cX3_isWord 0 = .ok (.iload_n 2, 1) := by decide +kernel
theorem dX3_isWord_1 : decode cX3_isWord 1 = .ok (.aload_n 3, 1) := by decide +kernel
theorem dX3_isWord_2 : decode cX3_isWord 2 = .ok (.invokevirtual 135, 3) := by decide +kernel
theorem dX3_isWord_5 : decode cX3_isWord 5 = .ok (.if_icmp .eq 5, 3) := by decide +kernel
theorem dX3_isWord_8 : decode cX3_isWord 8 = .ok (.iconst 0, 1) := by decide +kernel
theorem dX3_isWord_9 : decode cX3_isWord 9 = .ok (.ireturn, 1) := by decide +kernel
theorem dX3_isWord_10 : decode cX3_isWord 10 = .ok (.iconst 0, 1) := by decide +kernel
theorem dX3_isWord_11 : decode cX3_isWord 11 = .ok (.istore 4, 2) := by decide +kernel
theorem dX3_isWord_13 : decode cX3_isWord 13 = .ok (.iload 4, 2) := by decide +kernel
theorem dX3_isWord_15 : decode cX3_isWord 15 = .ok (.iload_n 2, 1) := by decide +kernel
theorem dX3_isWord_16 : decode cX3_isWord 16 = .ok (.if_icmp .ge 29, 3) := by decide +kernel
theorem dX3_isWord_19 : decode cX3_isWord 19 = .ok (.aload_n 0, 1) := by decide +kernel
theorem dX3_isWord_20 : decode cX3_isWord 20 = .ok (.getfield 9, 3) := by decide +kernel
theorem dX3_isWord_23 : decode cX3_isWord 23 = .ok (.iload_n 1, 1) := by decide +kernel
theorem dX3_isWord_24 : decode cX3_isWord 24 = .ok (.iload 4, 2) := by decide +kernel
theorem dX3_isWord_26 : decode cX3_isWord 26 = .ok (.iadd, 1) := by decide +kernel
theorem dX3_isWord_27 : decode cX3_isWord 27 = .ok (.caload, 1) := by decide +kernel
theorem dX3_isWord_28 : decode cX3_isWord 28 = .ok (.aload_n 3, 1) := by decide +kernel
theorem dX3_isWord_29 : decode cX3_isWord 29 = .ok (.iload 4, 2) := by decide +kernel
theorem dX3_isWord_31 : decode cX3_isWord 31 = .ok (.invokevirtual 139, 3) := by decide +kernel
theorem dX3_isWord_34 : decode cX3_isWord 34 = .ok (.if_icmp .eq 5, 3) := by decide +kernel
theorem dX3_isWord_37 : decode cX3_isWord 37 = .ok (.iconst 0, 1) := by decide +kernel
theorem dX3_isWord_38 : decode cX3_isWord 38 = .ok (.ireturn, 1) := by decide +kernel
theorem dX3_isWord_39 : decode cX3_isWord 39 = .ok (.iinc 4 1, 3) := by decide +kernel
theorem dX3_isWord_42 : decode cX3_isWord 42 = .ok (.goto (-29), 3) := by decide +kernel
theorem dX3_isWord_45 : decode cX3_isWord 45 = .ok (.iconst 1, 1) := by decide +kernel
theorem dX3_isWord_46 : decode cX3_isWord 46 = .ok (.ireturn, 1) := by decide +kernel
theorem dX3_fail_0 : decode cX3_fail 0 = .ok (.aload_n 0, 1) := by decide +kernel
theorem dX3_fail_1 : decode cX3_fail 1 = .ok (.getfield 25, 3) := by decide +kernel
theorem dX3_fail_4 : decode cX3_fail 4 = .ok (.ifCond .ne 13, 3) := by decide +kernel
theorem dX3_fail_7 : decode cX3_fail 7 = .ok (.aload_n 0, 1) := by decide +kernel
theorem dX3_fail_8 : decode cX3_fail 8 = .ok (.iload_n 1, 1) := by decide +kernel
theorem dX3_fail_9 : decode cX3_fail 9 = .ok (.putfield 25, 3) := by decide +kernel
theorem dX3_fail_12 : decode cX3_fail 12 = .ok (.aload_n 0, 1) := by decide +kernel
theorem dX3_fail_13 : decode cX3_fail 13 = .ok (.iload_n 2, 1) := by decide +kernel
theorem dX3_fail_14 : decode cX3_fail 14 = .ok (.putfield 28, 3) := by decide +kernel
theorem dX3_fail_17 : decode cX3_fail 17 = .ok (.return_, 1) := by decide +kernel
