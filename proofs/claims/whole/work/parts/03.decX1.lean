theorem dX1_init_0 : decode cX1_init 0 = .ok (.aload_n 0, 1) := by decide +kernel
theorem dX1_init_1 : decode cX1_init 1 = .ok (.invokespecial 3, 3) := by decide +kernel
theorem dX1_init_4 : decode cX1_init 4 = .ok (.aload_n 0, 1) := by decide +kernel
theorem dX1_init_5 : decode cX1_init 5 = .ok (.bipush 8, 2) := by decide +kernel
theorem dX1_init_7 : decode cX1_init 7 = .ok (.newarray .int, 2) := by decide +kernel
theorem dX1_init_9 : decode cX1_init 9 = .ok (.putfield 9, 3) := by decide +kernel
theorem dX1_init_12 : decode cX1_init 12 = .ok (.aload_n 0, 1) := by decide +kernel
theorem dX1_init_13 : decode cX1_init 13 = .ok (.iconst 0, 1) := by decide +kernel
theorem dX1_init_14 : decode cX1_init 14 = .ok (.putfield 15, 3) := by decide +kernel
theorem dX1_init_17 : decode cX1_init 17 = .ok (.aload_n 0, 1) := by decide +kernel
theorem dX1_init_18 : decode cX1_init 18 = .ok (.bipush 8, 2) := by decide +kernel
theorem dX1_init_20 : decode cX1_init 20 = .ok (.newarray .int, 2) := by decide +kernel
theorem dX1_init_22 : decode cX1_init 22 = .ok (.putfield 19, 3) := by decide +kernel
theorem dX1_init_25 : decode cX1_init 25 = .ok (.aload_n 0, 1) := by decide +kernel
theorem dX1_init_26 : decode cX1_init 26 = .ok (.bipush 8, 2) := by decide +kernel
theorem dX1_init_28 : decode cX1_init 28 = .ok (.newarray .int, 2) := by decide +kernel
theorem dX1_init_30 : decode cX1_init 30 = .ok (.putfield 22, 3) := by decide +kernel
theorem dX1_init_33 : decode cX1_init 33 = .ok (.return_, 1) := by decide +kernel
theorem dX1_part_0 : decode cX1_part 0 = .ok (.iconst 0, 1) := by decide +kernel
theorem dX1_part_1 : decode cX1_part 1 = .ok (.istore_n 3, 1) := by decide +kernel
theorem dX1_part_2 : decode cX1_part 2 = .ok (.iload_n 3, 1) := by decide +kernel
theorem dX1_part_3 : decode cX1_part 3 = .ok (.bipush 8, 2) := by decide +kernel
theorem dX1_part_5 : decode cX1_part 5 = .ok (.if_icmp .ge 33, 3) := by decide +kernel
theorem dX1_part_8 : decode cX1_part 8 = .ok (.aload_n 0, 1) := by decide +kernel
theorem dX1_part_9 : decode cX1_part 9 = .ok (.getfield 19, 3) := by decide +kernel
theorem dX1_part_12 : decode cX1_part 12 = .ok (.iload_n 3, 1) := by decide +kernel
theorem dX1_part_13 : decode cX1_part 13 = .ok (.aload_n 1, 1) := by decide +kernel
theorem dX1_part_14 : decode cX1_part 14 = .ok (.iload_n 3, 1) := by decide +kernel
theorem dX1_part_15 : decode cX1_part 15 = .ok (.invokevirtual 25, 3) := by decide +kernel
theorem dX1_part_18 : decode cX1_part 18 = .ok (.ifCond .eq 12, 3) := by decide +kernel
theorem dX1_part_21 : decode cX1_part 21 = .ok (.aload_n 1, 1) := by decide +kernel
theorem dX1_part_22 : decode cX1_part 22 = .ok (.iload_n 3, 1) := by decide +kernel
theorem dX1_part_23 : decode cX1_part 23 = .ok (.iload_n 2, 1) := by decide +kernel
theorem dX1_part_24 : decode cX1_part 24 = .ok (.invokestatic 31, 3) := by decide +kernel
theorem dX1_part_27 : decode cX1_part 27 = .ok (.goto 4, 3) := by decide +kernel
theorem dX1_part_30 : decode cX1_part 30 = .ok (.iconst 0, 1) := by decide +kernel
theorem dX1_part_31 : decode cX1_part 31 = .ok (.iastore, 1) := by decide +kernel
theorem dX1_part_32 : decode cX1_part 32 = .ok (.iinc 3 1, 3) := by decide +kernel
theorem dX1_part_35 : decode cX1_part 35 = .ok (.goto (-33), 3) := by decide +kernel
theorem dX1_part_38 : decode cX1_part 38 = .ok (.iconst 0, 1) := by decide +kernel
theorem dX1_part_39 : decode cX1_part 39 = .ok (.istore_n 3, 1) := by decide +kernel
theorem dX1_part_40 : decode cX1_part 40 = .ok (.iload_n 3, 1) := by decide +kernel
theorem dX1_part_41 : decode cX1_part 41 = .ok (.bipush 8, 2) := by decide +kernel
theorem dX1_part_43 : decode cX1_part 43 = .ok (.if_icmp .gt 20, 3) := by decide +kernel
theorem dX1_part_46 : decode cX1_part 46 = .ok (.aload_n 0, 1) := by decide +kernel
theorem dX1_part_47 : decode cX1_part 47 = .ok (.iconst 0, 1) := by decide +kernel
theorem dX1_part_48 : decode cX1_part 48 = .ok (.iconst 0, 1) := by decide +kernel
theorem dX1_part_49 : decode cX1_part 49 = .ok (.iload_n 3, 1) := by decide +kernel
theorem dX1_part_50 : decode cX1_part 50 = .ok (.invokestatic 35, 3) := by decide +kernel
theorem dX1_part_53 : decode cX1_part 53 = .ok (.ifCond .eq 4, 3) := by decide +kernel
theorem dX1_part_56 : decode cX1_part 56 = .ok (.return_, 1) := by decide +kernel
theorem dX1_part_57 : decode cX1_part 57 = .ok (.iinc 3 1, 3) := by decide +kernel
theorem dX1_part_60 : decode cX1_part 60 = .ok (.goto (-20), 3) := by decide +kernel
theorem dX1_part_63 : decode cX1_part 63 = .ok (.return_, 1) := by decide +kernel
theorem dX1_likeOnes_0 : decode cX1_likeOnes 0 = .ok (.iconst 0, 1) := by decide +kernel
theorem dX1_likeOnes_1 : decode cX1_likeOnes 1 = .ok (.istore_n 3, 1) := by decide +kernel
theorem dX1_likeOnes_2 : decode cX1_likeOnes 2 = .ok (.iconst 0, 1) := by decide +kernel
theorem dX1_likeOnes_3 : decode cX1_likeOnes 3 = .ok (.istore 4, 2) := by decide +kernel
theorem dX1_likeOnes_5 : decode cX1_likeOnes 5 = .ok (.iload 4, 2) := by decide +kernel
theorem dX1_likeOnes_7 : decode cX1_likeOnes 7 = .ok (.bipush 8, 2) := by decide +kernel
theorem dX1_likeOnes_9 : decode cX1_likeOnes 9 = .ok (.if_icmp .ge 42, 3) := by decide +kernel
theorem dX1_likeOnes_12 : decode cX1_likeOnes 12 = .ok (.aload_n 0, 1) := by decide +kernel
theorem dX1_likeOnes_13 : decode cX1_likeOnes 13 = .ok (.iload 4, 2) := by decide +kernel
theorem dX1_likeOnes_15 : decode cX1_likeOnes 15 = .ok (.invokevirtual 25, 3) := by decide +kernel
theorem dX1_likeOnes_18 : decode cX1_likeOnes 18 = .ok (.ifCond .eq 27, 3) := by decide +kernel
theorem dX1_likeOnes_21 : decode cX1_likeOnes 21 = .ok (.aload_n 0, 1) := by decide +kernel
theorem dX1_likeOnes_22 : decode cX1_likeOnes 22 = .ok (.iload_n 1, 1) := by decide +kernel
theorem dX1_likeOnes_23 : decode cX1_likeOnes 23 = .ok (.iload 4, 2) := by decide +kernel
theorem dX1_likeOnes_25 : decode cX1_likeOnes 25 = .ok (.iload_n 2, 1) := by decide +kernel
theorem dX1_likeOnes_26 : decode cX1_likeOnes 26 = .ok (.invokevirtual 39, 3) := by decide +kernel
theorem dX1_likeOnes_29 : decode cX1_likeOnes 29 = .ok (.aload_n 0, 1) := by decide +kernel
theorem dX1_likeOnes_30 : decode cX1_likeOnes 30 = .ok (.getfield 43, 3) := by decide +kernel
theorem dX1_likeOnes_33 : decode cX1_likeOnes 33 = .ok (.iconst 0, 1) := by decide +kernel
theorem dX1_likeOnes_34 : decode cX1_likeOnes 34 = .ok (.iaload, 1) := by decide +kernel
theorem dX1_likeOnes_35 : decode cX1_likeOnes 35 = .ok (.if_icmp .gt 10, 3) := by decide +kernel
theorem dX1_likeOnes_38 : decode cX1_likeOnes 38 = .ok (.iload_n 3, 1) := by decide +kernel
theorem dX1_likeOnes_39 : decode cX1_likeOnes 39 = .ok (.iconst 1, 1) := by decide +kernel
theorem dX1_likeOnes_40 : decode cX1_likeOnes 40 = .ok (.iload 4, 2) := by decide +kernel
theorem dX1_likeOnes_42 : decode cX1_likeOnes 42 = .ok (.ishl, 1) := by decide +kernel
theorem dX1_likeOnes_43 : decode cX1_likeOnes 43 = .ok (.ior, 1) := by decide +kernel
theorem dX1_likeOnes_44 : decode cX1_likeOnes 44 = .ok (.istore_n 3, 1) := by decide +kernel
theorem dX1_likeOnes_45 : decode cX1_likeOnes 45 = .ok (.iinc 4 1, 3) := by decide +kernel
theorem dX1_likeOnes_48 : decode cX1_likeOnes 48 = .ok (.goto (-43), 3) := by decide +kernel
theorem dX1_likeOnes_51 : decode cX1_likeOnes 51 = .ok (.iload_n 3, 1) := by decide +kernel
theorem dX1_likeOnes_52 : decode cX1_likeOnes 52 = .ok (.ireturn, 1) := by decide +kernel
theorem dX1_place_0 : decode cX1_place 0 = .ok (.iload_n 1, 1) := by decide +kernel
theorem dX1_place_1 : decode cX1_place 1 = .ok (.bipush 8, 2) := by decide +kernel
theorem dX1_place_3 : decode cX1_place 3 = .ok (.if_icmp .lt 10, 3) := by decide +kernel
theorem dX1_place_6 : decode cX1_place 6 = .ok (.aload_n 0, 1) := by decide +kernel
theorem dX1_place_7 : decode cX1_place 7 = .ok (.iload_n 2, 1) := by decide +kernel
theorem dX1_place_8 : decode cX1_place 8 = .ok (.putfield 15, 3) := by decide +kernel
theorem dX1_place_11 : decode cX1_place 11 = .ok (.iconst 1, 1) := by decide +kernel
theorem dX1_place_12 : decode cX1_place 12 = .ok (.ireturn, 1) := by decide +kernel
theorem dX1_place_13 : decode cX1_place 13 = .ok (.aload_n 0, 1) := by decide +kernel
theorem dX1_place_14 : decode cX1_place 14 = .ok (.getfield 19, 3) := by decide +kernel
theorem dX1_place_17 : decode cX1_place 17 = .ok (.iload_n 1, 1) := by decide +kernel
theorem dX1_place_18 : decode cX1_place 18 = .ok (.iaload, 1) := by decide +kernel
theorem dX1_place_19 : decode cX1_place 19 = .ok (.ifCond .ne 20, 3) := by decide +kernel
theorem dX1_place_22 : decode cX1_place 22 = .ok (.aload_n 0, 1) := by decide +kernel
theorem dX1_place_23 : decode cX1_place 23 = .ok (.getfield 9, 3) := by decide +kernel
theorem dX1_place_26 : decode cX1_place 26 = .ok (.iload_n 1, 1) := by decide +kernel
theorem dX1_place_27 : decode cX1_place 27 = .ok (.iconst (-1), 1) := by decide +kernel
theorem dX1_place_28 : decode cX1_place 28 = .ok (.iastore, 1) := by decide +kernel
theorem dX1_place_29 : decode cX1_place 29 = .ok (.aload_n 0, 1) := by decide +kernel
theorem dX1_place_30 : decode cX1_place 30 = .ok (.iload_n 1, 1) := by decide +kernel
theorem dX1_place_31 : decode cX1_place 31 = .ok (.iconst 1, 1) := by decide +kernel
theorem dX1_place_32 : decode cX1_place 32 = .ok (.iadd, 1) := by decide +kernel
theorem dX1_place_33 : decode cX1_place 33 = .ok (.iload_n 2, 1) := by decide +kernel
theorem dX1_place_34 : decode cX1_place 34 = .ok (.iload_n 3, 1) := by decide +kernel
theorem dX1_place_35 : decode cX1_place 35 = .ok (.invokestatic 35, 3) := by decide +kernel
theorem dX1_place_38 : decode cX1_place 38 = .ok (.ireturn, 1) := by decide +kernel
theorem dX1_place_39 : decode cX1_place 39 = .ok (.iconst 0, 1) := by decide +kernel
theorem dX1_place_40 : decode cX1_place 40 = .ok (.istore 4, 2) := by decide +kernel
theorem dX1_place_42 : decode cX1_place 42 = .ok (.iload 4, 2) := by decide +kernel
theorem dX1_place_44 : decode cX1_place 44 = .ok (.iload_n 2, 1) := by decide +kernel
theorem dX1_place_45 : decode cX1_place 45 = .ok (.if_icmp .ge 78, 3) := by decide +kernel
theorem dX1_place_48 : decode cX1_place 48 = .ok (.aload_n 0, 1) := by decide +kernel
theorem dX1_place_49 : decode cX1_place 49 = .ok (.getfield 22, 3) := by decide +kernel
theorem dX1_place_52 : decode cX1_place 52 = .ok (.iload 4, 2) := by decide +kernel
theorem dX1_place_54 : decode cX1_place 54 = .ok (.iaload, 1) := by decide +kernel
theorem dX1_place_55 : decode cX1_place 55 = .ok (.aload_n 0, 1) := by decide +kernel
theorem dX1_place_56 : decode cX1_place 56 = .ok (.getfield 19, 3) := by decide +kernel
theorem dX1_place_59 : decode cX1_place 59 = .ok (.iload_n 1, 1) := by decide +kernel
theorem dX1_place_60 : decode cX1_place 60 = .ok (.iaload, 1) := by decide +kernel
theorem dX1_place_61 : decode cX1_place 61 = .ok (.iconst (-1), 1) := by decide +kernel
theorem dX1_place_62 : decode cX1_place 62 = .ok (.ixor, 1) := by decide +kernel
theorem dX1_place_63 : decode cX1_place 63 = .ok (.iand, 1) := by decide +kernel
theorem dX1_place_64 : decode cX1_place 64 = .ok (.ifCond .ne 53, 3) := by decide +kernel
theorem dX1_place_67 : decode cX1_place 67 = .ok (.aload_n 0, 1) := by decide +kernel
theorem dX1_place_68 : decode cX1_place 68 = .ok (.getfield 9, 3) := by decide +kernel
theorem dX1_place_71 : decode cX1_place 71 = .ok (.iload_n 1, 1) := by decide +kernel
theorem dX1_place_72 : decode cX1_place 72 = .ok (.iload 4, 2) := by decide +kernel
theorem dX1_place_74 : decode cX1_place 74 = .ok (.iastore, 1) := by decide +kernel
theorem dX1_place_75 : decode cX1_place 75 = .ok (.aload_n 0, 1) := by decide +kernel
theorem dX1_place_76 : decode cX1_place 76 = .ok (.getfield 22, 3) := by decide +kernel
theorem dX1_place_79 : decode cX1_place 79 = .ok (.iload 4, 2) := by decide +kernel
theorem dX1_place_81 : decode cX1_place 81 = .ok (.dup2, 1) := by decide +kernel
theorem dX1_place_82 : decode cX1_place 82 = .ok (.iaload, 1) := by decide +kernel
theorem dX1_place_83 : decode cX1_place 83 = .ok (.iconst 1, 1) := by decide +kernel
theorem dX1_place_84 : decode cX1_place 84 = .ok (.iload_n 1, 1) := by decide +kernel
theorem dX1_place_85 : decode cX1_place 85 = .ok (.ishl, 1) := by decide +kernel
theorem dX1_place_86 : decode cX1_place 86 = .ok (.ior, 1) := by decide +kernel
theorem dX1_place_87 : decode cX1_place 87 = .ok (.iastore, 1) := by decide +kernel
theorem dX1_place_88 : decode cX1_place 88 = .ok (.aload_n 0, 1) := by decide +kernel
theorem dX1_place_89 : decode cX1_place 89 = .ok (.iload_n 1, 1) := by decide +kernel
theorem dX1_place_90 : decode cX1_place 90 = .ok (.iconst 1, 1) := by decide +kernel
theorem dX1_place_91 : decode cX1_place 91 = .ok (.iadd, 1) := by decide +kernel
theorem dX1_place_92 : decode cX1_place 92 = .ok (.iload_n 2, 1) := by decide +kernel
theorem dX1_place_93 : decode cX1_place 93 = .ok (.iload_n 3, 1) := by decide +kernel
theorem dX1_place_94 : decode cX1_place 94 = .ok (.invokestatic 35, 3) := by decide +kernel
theorem dX1_place_97 : decode cX1_place 97 = .ok (.ifCond .eq 5, 3) := by decide +kernel
theorem dX1_place_100 : decode cX1_place 100 = .ok (.iconst 1, 1) := by decide +kernel
theorem dX1_place_101 : decode cX1_place 101 = .ok (.ireturn, 1) := by decide +kernel
theorem dX1_place_102 : decode cX1_place 102 = .ok (.aload_n 0, 1) := by decide +kernel
theorem dX1_place_103 : decode cX1_place 103 = .ok (.getfield 22, 3) := by decide +kernel
theorem dX1_place_106 : decode cX1_place 106 = .ok (.iload 4, 2) := by decide +kernel
theorem dX1_place_108 : decode cX1_place 108 = .ok (.dup2, 1) := by decide +kernel
theorem dX1_place_109 : decode cX1_place 109 = .ok (.iaload, 1) := by decide +kernel
theorem dX1_place_110 : decode cX1_place 110 = .ok (.iconst 1, 1) := by decide +kernel
theorem dX1_place_111 : decode cX1_place 111 = .ok (.iload_n 1, 1) := by decide +kernel
theorem dX1_place_112 : decode cX1_place 112 = .ok (.ishl, 1) := by decide +kernel
theorem dX1_place_113 : decode cX1_place 113 = .ok (.iconst (-1), 1) := by decide +kernel
theorem dX1_place_114 : decode cX1_place 114 = .ok (.ixor, 1) := by decide +kernel
theorem dX1_place_115 : decode cX1_place 115 = .ok (.iand, 1) := by decide +kernel
theorem dX1_place_116 : decode cX1_place 116 = .ok (.iastore, 1) := by decide +kernel
theorem dX1_place_117 : decode cX1_place 117 = .ok (.iinc 4 1, 3) := by decide +kernel
theorem dX1_place_120 : decode cX1_place 120 = .ok (.goto (-78), 3) := by decide +kernel
theorem dX1_place_123 : decode cX1_place 123 = .ok (.iload_n 2, 1) := by decide +kernel
theorem dX1_place_124 : decode cX1_place 124 = .ok (.iload_n 3, 1) := by decide +kernel
theorem dX1_place_125 : decode cX1_place 125 = .ok (.if_icmp .lt 5, 3) := by decide +kernel
theorem dX1_place_128 : decode cX1_place 128 = .ok (.iconst 0, 1) := by decide +kernel
theorem dX1_place_129 : decode cX1_place 129 = .ok (.ireturn, 1) := by decide +kernel
theorem dX1_place_130 : decode cX1_place 130 = .ok (.aload_n 0, 1) := by decide +kernel
theorem dX1_place_131 : decode cX1_place 131 = .ok (.getfield 9, 3) := by decide +kernel
theorem dX1_place_134 : decode cX1_place 134 = .ok (.iload_n 1, 1) := by decide +kernel
theorem dX1_place_135 : decode cX1_place 135 = .ok (.iload_n 2, 1) := by decide +kernel
theorem dX1_place_136 : decode cX1_place 136 = .ok (.iastore, 1) := by decide +kernel
theorem dX1_place_137 : decode cX1_place 137 = .ok (.aload_n 0, 1) := by decide +kernel
theorem dX1_place_138 : decode cX1_place 138 = .ok (.getfield 22, 3) := by decide +kernel
theorem dX1_place_141 : decode cX1_place 141 = .ok (.iload_n 2, 1) := by decide +kernel
theorem dX1_place_142 : decode cX1_place 142 = .ok (.iconst 1, 1) := by decide +kernel
theorem dX1_place_143 : decode cX1_place 143 = .ok (.iload_n 1, 1) := by decide +kernel
theorem dX1_place_144 : decode cX1_place 144 = .ok (.ishl, 1) := by decide +kernel
theorem dX1_place_145 : decode cX1_place 145 = .ok (.iastore, 1) := by decide +kernel
theorem dX1_place_146 : decode cX1_place 146 = .ok (.aload_n 0, 1) := by decide +kernel
theorem dX1_place_147 : decode cX1_place 147 = .ok (.iload_n 1, 1) := by decide +kernel
theorem dX1_place_148 : decode cX1_place 148 = .ok (.iconst 1, 1) := by decide +kernel
theorem dX1_place_149 : decode cX1_place 149 = .ok (.iadd, 1) := by decide +kernel
theorem dX1_place_150 : decode cX1_place 150 = .ok (.iload_n 2, 1) := by decide +kernel
theorem dX1_place_151 : decode cX1_place 151 = .ok (.iconst 1, 1) := by decide +kernel
theorem dX1_place_152 : decode cX1_place 152 = .ok (.iadd, 1) := by decide +kernel
theorem dX1_place_153 : decode cX1_place 153 = .ok (.iload_n 3, 1) := by decide +kernel
theorem dX1_place_154 : decode cX1_place 154 = .ok (.invokestatic 35, 3) := by decide +kernel
theorem dX1_place_157 : decode cX1_place 157 = .ok (.ireturn, 1) := by decide +kernel
