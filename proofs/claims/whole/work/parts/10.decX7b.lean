theorem dX7_clause_41 : decode cX7_clause 41 = .ok (.iaload, 1) := by decide +kernel
theorem dX7_clause_42 : decode cX7_clause 42 = .ok (.bipush 97, 2) := by decide +kernel
theorem dX7_clause_44 : decode cX7_clause 44 = .ok (.isub, 1) := by decide +kernel
theorem dX7_clause_45 : decode cX7_clause 45 = .ok (.goto 4, 3) := by decide +kernel
theorem dX7_clause_48 : decode cX7_clause 48 = .ok (.iconst (-1), 1) := by decide +kernel
theorem dX7_clause_49 : decode cX7_clause 49 = .ok (.istore_n 2, 1) := by decide +kernel
theorem dX7_clause_50 : decode cX7_clause 50 = .ok (.aload_n 0, 1) := by decide +kernel
theorem dX7_clause_51 : decode cX7_clause 51 = .ok (.getfield 132, 3) := by decide +kernel
theorem dX7_clause_54 : decode cX7_clause 54 = .ok (.iload_n 1, 1) := by decide +kernel
theorem dX7_clause_55 : decode cX7_clause 55 = .ok (.iconst 1, 1) := by decide +kernel
theorem dX7_clause_56 : decode cX7_clause 56 = .ok (.iadd, 1) := by decide +kernel
theorem dX7_clause_57 : decode cX7_clause 57 = .ok (.if_icmp .le 17, 3) := by decide +kernel
theorem dX7_clause_60 : decode cX7_clause 60 = .ok (.aload_n 0, 1) := by decide +kernel
theorem dX7_clause_61 : decode cX7_clause 61 = .ok (.getfield 16, 3) := by decide +kernel
theorem dX7_clause_64 : decode cX7_clause 64 = .ok (.iload_n 1, 1) := by decide +kernel
theorem dX7_clause_65 : decode cX7_clause 65 = .ok (.iconst 1, 1) := by decide +kernel
theorem dX7_clause_66 : decode cX7_clause 66 = .ok (.iadd, 1) := by decide +kernel
theorem dX7_clause_67 : decode cX7_clause 67 = .ok (.iaload, 1) := by decide +kernel
theorem dX7_clause_68 : decode cX7_clause 68 = .ok (.bipush 97, 2) := by decide +kernel
theorem dX7_clause_70 : decode cX7_clause 70 = .ok (.isub, 1) := by decide +kernel
theorem dX7_clause_71 : decode cX7_clause 71 = .ok (.goto 4, 3) := by decide +kernel
theorem dX7_clause_74 : decode cX7_clause 74 = .ok (.iconst (-1), 1) := by decide +kernel
theorem dX7_clause_75 : decode cX7_clause 75 = .ok (.istore_n 3, 1) := by decide +kernel
theorem dX7_clause_76 : decode cX7_clause 76 = .ok (.aload_n 0, 1) := by decide +kernel
theorem dX7_clause_77 : decode cX7_clause 77 = .ok (.getfield 132, 3) := by decide +kernel
theorem dX7_clause_80 : decode cX7_clause 80 = .ok (.iload_n 1, 1) := by decide +kernel
theorem dX7_clause_81 : decode cX7_clause 81 = .ok (.iconst 1, 1) := by decide +kernel
theorem dX7_clause_82 : decode cX7_clause 82 = .ok (.iadd, 1) := by decide +kernel
theorem dX7_clause_83 : decode cX7_clause 83 = .ok (.if_icmp .ne 17, 3) := by decide +kernel
theorem dX7_clause_86 : decode cX7_clause 86 = .ok (.iload_n 2, 1) := by decide +kernel
theorem dX7_clause_87 : decode cX7_clause 87 = .ok (.bipush 8, 2) := by decide +kernel
theorem dX7_clause_89 : decode cX7_clause 89 = .ok (.if_icmp .ge 11, 3) := by decide +kernel
theorem dX7_clause_92 : decode cX7_clause 92 = .ok (.aload_n 0, 1) := by decide +kernel
theorem dX7_clause_93 : decode cX7_clause 93 = .ok (.iload_n 2, 1) := by decide +kernel
theorem dX7_clause_94 : decode cX7_clause 94 = .ok (.invokevirtual 197, 3) := by decide +kernel
theorem dX7_clause_97 : decode cX7_clause 97 = .ok (.goto 69, 3) := by decide +kernel
theorem dX7_clause_100 : decode cX7_clause 100 = .ok (.aload_n 0, 1) := by decide +kernel
theorem dX7_clause_101 : decode cX7_clause 101 = .ok (.getfield 132, 3) := by decide +kernel
theorem dX7_clause_104 : decode cX7_clause 104 = .ok (.iload_n 1, 1) := by decide +kernel
theorem dX7_clause_105 : decode cX7_clause 105 = .ok (.iconst 2, 1) := by decide +kernel
theorem dX7_clause_106 : decode cX7_clause 106 = .ok (.iadd, 1) := by decide +kernel
theorem dX7_clause_107 : decode cX7_clause 107 = .ok (.if_icmp .ne 25, 3) := by decide +kernel
theorem dX7_clause_110 : decode cX7_clause 110 = .ok (.iload_n 2, 1) := by decide +kernel
theorem dX7_clause_111 : decode cX7_clause 111 = .ok (.bipush 8, 2) := by decide +kernel
theorem dX7_clause_113 : decode cX7_clause 113 = .ok (.if_icmp .ge 19, 3) := by decide +kernel
theorem dX7_clause_116 : decode cX7_clause 116 = .ok (.iload_n 3, 1) := by decide +kernel
theorem dX7_clause_117 : decode cX7_clause 117 = .ok (.bipush 8, 2) := by decide +kernel
theorem dX7_clause_119 : decode cX7_clause 119 = .ok (.if_icmp .ge 13, 3) := by decide +kernel
theorem dX7_clause_122 : decode cX7_clause 122 = .ok (.aload_n 0, 1) := by decide +kernel
theorem dX7_clause_123 : decode cX7_clause 123 = .ok (.iload_n 2, 1) := by decide +kernel
theorem dX7_clause_124 : decode cX7_clause 124 = .ok (.iload_n 3, 1) := by decide +kernel
theorem dX7_clause_125 : decode cX7_clause 125 = .ok (.iload_n 1, 1) := by decide +kernel
theorem dX7_clause_126 : decode cX7_clause 126 = .ok (.invokevirtual 200, 3) := by decide +kernel
theorem dX7_clause_129 : decode cX7_clause 129 = .ok (.goto 37, 3) := by decide +kernel
theorem dX7_clause_132 : decode cX7_clause 132 = .ok (.aload_n 0, 1) := by decide +kernel
theorem dX7_clause_133 : decode cX7_clause 133 = .ok (.getfield 132, 3) := by decide +kernel
theorem dX7_clause_136 : decode cX7_clause 136 = .ok (.iload_n 1, 1) := by decide +kernel
theorem dX7_clause_137 : decode cX7_clause 137 = .ok (.if_icmp .le 23, 3) := by decide +kernel
theorem dX7_clause_140 : decode cX7_clause 140 = .ok (.aload_n 0, 1) := by decide +kernel
theorem dX7_clause_141 : decode cX7_clause 141 = .ok (.aload_n 0, 1) := by decide +kernel
theorem dX7_clause_142 : decode cX7_clause 142 = .ok (.getfield 16, 3) := by decide +kernel
theorem dX7_clause_145 : decode cX7_clause 145 = .ok (.iload_n 1, 1) := by decide +kernel
theorem dX7_clause_146 : decode cX7_clause 146 = .ok (.aload_n 0, 1) := by decide +kernel
theorem dX7_clause_147 : decode cX7_clause 147 = .ok (.getfield 132, 3) := by decide +kernel
theorem dX7_clause_150 : decode cX7_clause 150 = .ok (.invokestatic 182, 3) := by decide +kernel
theorem dX7_clause_153 : decode cX7_clause 153 = .ok (.iload_n 1, 1) := by decide +kernel
theorem dX7_clause_154 : decode cX7_clause 154 = .ok (.invokevirtual 204, 3) := by decide +kernel
theorem dX7_clause_157 : decode cX7_clause 157 = .ok (.goto 9, 3) := by decide +kernel
theorem dX7_clause_160 : decode cX7_clause 160 = .ok (.aload_n 0, 1) := by decide +kernel
theorem dX7_clause_161 : decode cX7_clause 161 = .ok (.iconst 1, 1) := by decide +kernel
theorem dX7_clause_162 : decode cX7_clause 162 = .ok (.iload_n 1, 1) := by decide +kernel
theorem dX7_clause_163 : decode cX7_clause 163 = .ok (.invokevirtual 156, 3) := by decide +kernel
theorem dX7_clause_166 : decode cX7_clause 166 = .ok (.aload_n 0, 1) := by decide +kernel
theorem dX7_clause_167 : decode cX7_clause 167 = .ok (.getfield 138, 3) := by decide +kernel
theorem dX7_clause_170 : decode cX7_clause 170 = .ok (.ifCond .ne 9, 3) := by decide +kernel
theorem dX7_clause_173 : decode cX7_clause 173 = .ok (.aload_n 0, 1) := by decide +kernel
theorem dX7_clause_174 : decode cX7_clause 174 = .ok (.bipush 59, 2) := by decide +kernel
theorem dX7_clause_176 : decode cX7_clause 176 = .ok (.invokevirtual 170, 3) := by decide +kernel
theorem dX7_clause_179 : decode cX7_clause 179 = .ok (.return_, 1) := by decide +kernel
theorem dX7_feed_0 : decode cX7_feed 0 = .ok (.iload_n 1, 1) := by decide +kernel
theorem dX7_feed_1 : decode cX7_feed 1 = .ok (.i2l, 1) := by decide +kernel
theorem dX7_feed_2 : decode cX7_feed 2 = .ok (.lconst 0, 1) := by decide +kernel
theorem dX7_feed_3 : decode cX7_feed 3 = .ok (.ldc2_w 208, 3) := by decide +kernel
theorem dX7_feed_6 : decode cX7_feed 6 = .ok (.invokestatic 53, 3) := by decide +kernel
theorem dX7_feed_9 : decode cX7_feed 9 = .ok (.ifCond .ne 6, 3) := by decide +kernel
theorem dX7_feed_12 : decode cX7_feed 12 = .ok (.ldc 210, 2) := by decide +kernel
theorem dX7_feed_14 : decode cX7_feed 14 = .ok (.ireturn, 1) := by decide +kernel
theorem dX7_feed_15 : decode cX7_feed 15 = .ok (.aload_n 0, 1) := by decide +kernel
theorem dX7_feed_16 : decode cX7_feed 16 = .ok (.getfield 135, 3) := by decide +kernel
theorem dX7_feed_19 : decode cX7_feed 19 = .ok (.sipush 150, 3) := by decide +kernel
theorem dX7_feed_22 : decode cX7_feed 22 = .ok (.if_icmp .ne 6, 3) := by decide +kernel
theorem dX7_feed_25 : decode cX7_feed 25 = .ok (.ldc 211, 2) := by decide +kernel
theorem dX7_feed_27 : decode cX7_feed 27 = .ok (.ireturn, 1) := by decide +kernel
theorem dX7_feed_28 : decode cX7_feed 28 = .ok (.aload_n 0, 1) := by decide +kernel
theorem dX7_feed_29 : decode cX7_feed 29 = .ok (.getfield 16, 3) := by decide +kernel
theorem dX7_feed_32 : decode cX7_feed 32 = .ok (.aload_n 0, 1) := by decide +kernel
theorem dX7_feed_33 : decode cX7_feed 33 = .ok (.getfield 135, 3) := by decide +kernel
theorem dX7_feed_36 : decode cX7_feed 36 = .ok (.iload_n 1, 1) := by decide +kernel
theorem dX7_feed_37 : decode cX7_feed 37 = .ok (.iastore, 1) := by decide +kernel
theorem dX7_feed_38 : decode cX7_feed 38 = .ok (.aload_n 0, 1) := by decide +kernel
theorem dX7_feed_39 : decode cX7_feed 39 = .ok (.dup, 1) := by decide +kernel
theorem dX7_feed_40 : decode cX7_feed 40 = .ok (.getfield 135, 3) := by decide +kernel
theorem dX7_feed_43 : decode cX7_feed 43 = .ok (.iconst 1, 1) := by decide +kernel
theorem dX7_feed_44 : decode cX7_feed 44 = .ok (.iadd, 1) := by decide +kernel
theorem dX7_feed_45 : decode cX7_feed 45 = .ok (.putfield 135, 3) := by decide +kernel
theorem dX7_feed_48 : decode cX7_feed 48 = .ok (.aload_n 0, 1) := by decide +kernel
theorem dX7_feed_49 : decode cX7_feed 49 = .ok (.getfield 135, 3) := by decide +kernel
theorem dX7_feed_52 : decode cX7_feed 52 = .ok (.ireturn, 1) := by decide +kernel
theorem dX7_tell_0 : decode cX7_tell 0 = .ok (.aload_n 0, 1) := by decide +kernel
theorem dX7_tell_1 : decode cX7_tell 1 = .ok (.iconst 0, 1) := by decide +kernel
theorem dX7_tell_2 : decode cX7_tell 2 = .ok (.bipush 19, 2) := by decide +kernel
theorem dX7_tell_4 : decode cX7_tell 4 = .ok (.invokevirtual 44, 3) := by decide +kernel
theorem dX7_tell_7 : decode cX7_tell 7 = .ok (.aload_n 0, 1) := by decide +kernel
theorem dX7_tell_8 : decode cX7_tell 8 = .ok (.iconst 0, 1) := by decide +kernel
theorem dX7_tell_9 : decode cX7_tell 9 = .ok (.putfield 132, 3) := by decide +kernel
theorem dX7_tell_12 : decode cX7_tell 12 = .ok (.aload_n 0, 1) := by decide +kernel
theorem dX7_tell_13 : decode cX7_tell 13 = .ok (.iconst 0, 1) := by decide +kernel
theorem dX7_tell_14 : decode cX7_tell 14 = .ok (.putfield 138, 3) := by decide +kernel
theorem dX7_tell_17 : decode cX7_tell 17 = .ok (.aload_n 0, 1) := by decide +kernel
theorem dX7_tell_18 : decode cX7_tell 18 = .ok (.iconst (-1), 1) := by decide +kernel
theorem dX7_tell_19 : decode cX7_tell 19 = .ok (.putfield 19, 3) := by decide +kernel
theorem dX7_tell_22 : decode cX7_tell 22 = .ok (.iconst 0, 1) := by decide +kernel
theorem dX7_tell_23 : decode cX7_tell 23 = .ok (.istore_n 1, 1) := by decide +kernel
theorem dX7_tell_24 : decode cX7_tell 24 = .ok (.aload_n 0, 1) := by decide +kernel
theorem dX7_tell_25 : decode cX7_tell 25 = .ok (.invokevirtual 153, 3) := by decide +kernel
theorem dX7_tell_28 : decode cX7_tell 28 = .ok (.aload_n 0, 1) := by decide +kernel
theorem dX7_tell_29 : decode cX7_tell 29 = .ok (.getfield 138, 3) := by decide +kernel
theorem dX7_tell_32 : decode cX7_tell 32 = .ok (.ifCond .ne 28, 3) := by decide +kernel
theorem dX7_tell_35 : decode cX7_tell 35 = .ok (.aload_n 0, 1) := by decide +kernel
theorem dX7_tell_36 : decode cX7_tell 36 = .ok (.getfield 132, 3) := by decide +kernel
theorem dX7_tell_39 : decode cX7_tell 39 = .ok (.aload_n 0, 1) := by decide +kernel
theorem dX7_tell_40 : decode cX7_tell 40 = .ok (.getfield 135, 3) := by decide +kernel
theorem dX7_tell_43 : decode cX7_tell 43 = .ok (.if_icmp .ge 17, 3) := by decide +kernel
theorem dX7_tell_46 : decode cX7_tell 46 = .ok (.aload_n 0, 1) := by decide +kernel
theorem dX7_tell_47 : decode cX7_tell 47 = .ok (.invokevirtual 212, 3) := by decide +kernel
theorem dX7_tell_50 : decode cX7_tell 50 = .ok (.iinc 1 1, 3) := by decide +kernel
theorem dX7_tell_53 : decode cX7_tell 53 = .ok (.aload_n 0, 1) := by decide +kernel
theorem dX7_tell_54 : decode cX7_tell 54 = .ok (.invokevirtual 153, 3) := by decide +kernel
theorem dX7_tell_57 : decode cX7_tell 57 = .ok (.goto (-29), 3) := by decide +kernel
theorem dX7_tell_60 : decode cX7_tell 60 = .ok (.aload_n 0, 1) := by decide +kernel
theorem dX7_tell_61 : decode cX7_tell 61 = .ok (.iconst 0, 1) := by decide +kernel
theorem dX7_tell_62 : decode cX7_tell 62 = .ok (.putfield 135, 3) := by decide +kernel
theorem dX7_tell_65 : decode cX7_tell 65 = .ok (.aload_n 0, 1) := by decide +kernel
theorem dX7_tell_66 : decode cX7_tell 66 = .ok (.getfield 138, 3) := by decide +kernel
theorem dX7_tell_69 : decode cX7_tell 69 = .ok (.ifCond .le 18, 3) := by decide +kernel
theorem dX7_tell_72 : decode cX7_tell 72 = .ok (.aload_n 0, 1) := by decide +kernel
theorem dX7_tell_73 : decode cX7_tell 73 = .ok (.bipush 19, 2) := by decide +kernel
theorem dX7_tell_75 : decode cX7_tell 75 = .ok (.iconst 0, 1) := by decide +kernel
theorem dX7_tell_76 : decode cX7_tell 76 = .ok (.invokevirtual 44, 3) := by decide +kernel
theorem dX7_tell_79 : decode cX7_tell 79 = .ok (.bipush (-10), 2) := by decide +kernel
theorem dX7_tell_81 : decode cX7_tell 81 = .ok (.aload_n 0, 1) := by decide +kernel
theorem dX7_tell_82 : decode cX7_tell 82 = .ok (.getfield 138, 3) := by decide +kernel
theorem dX7_tell_85 : decode cX7_tell 85 = .ok (.isub, 1) := by decide +kernel
theorem dX7_tell_86 : decode cX7_tell 86 = .ok (.ireturn, 1) := by decide +kernel
theorem dX7_tell_87 : decode cX7_tell 87 = .ok (.aload_n 0, 1) := by decide +kernel
theorem dX7_tell_88 : decode cX7_tell 88 = .ok (.iconst 0, 1) := by decide +kernel
theorem dX7_tell_89 : decode cX7_tell 89 = .ok (.bipush 20, 2) := by decide +kernel
theorem dX7_tell_91 : decode cX7_tell 91 = .ok (.invokevirtual 44, 3) := by decide +kernel
theorem dX7_tell_94 : decode cX7_tell 94 = .ok (.aload_n 0, 1) := by decide +kernel
theorem dX7_tell_95 : decode cX7_tell 95 = .ok (.bipush 19, 2) := by decide +kernel
theorem dX7_tell_97 : decode cX7_tell 97 = .ok (.iconst 0, 1) := by decide +kernel
theorem dX7_tell_98 : decode cX7_tell 98 = .ok (.invokevirtual 44, 3) := by decide +kernel
theorem dX7_tell_101 : decode cX7_tell 101 = .ok (.aload_n 0, 1) := by decide +kernel
theorem dX7_tell_102 : decode cX7_tell 102 = .ok (.invokevirtual 215, 3) := by decide +kernel
theorem dX7_tell_105 : decode cX7_tell 105 = .ok (.aload_n 0, 1) := by decide +kernel
theorem dX7_tell_106 : decode cX7_tell 106 = .ok (.bipush 20, 2) := by decide +kernel
theorem dX7_tell_108 : decode cX7_tell 108 = .ok (.iconst 0, 1) := by decide +kernel
theorem dX7_tell_109 : decode cX7_tell 109 = .ok (.invokevirtual 44, 3) := by decide +kernel
theorem dX7_tell_112 : decode cX7_tell 112 = .ok (.iload_n 1, 1) := by decide +kernel
theorem dX7_tell_113 : decode cX7_tell 113 = .ok (.ireturn, 1) := by decide +kernel
theorem dX7_fault_0 : decode cX7_fault 0 = .ok (.aload_n 0, 1) := by decide +kernel
theorem dX7_fault_1 : decode cX7_fault 1 = .ok (.getfield 19, 3) := by decide +kernel
theorem dX7_fault_4 : decode cX7_fault 4 = .ok (.ireturn, 1) := by decide +kernel
theorem dX7_put_0 : decode cX7_put 0 = .ok (.aload_n 0, 1) := by decide +kernel
theorem dX7_put_1 : decode cX7_put 1 = .ok (.getfield 38, 3) := by decide +kernel
theorem dX7_put_4 : decode cX7_put 4 = .ok (.aload_n 0, 1) := by decide +kernel
theorem dX7_put_5 : decode cX7_put 5 = .ok (.getfield 218, 3) := by decide +kernel
theorem dX7_put_8 : decode cX7_put 8 = .ok (.iload_n 1, 1) := by decide +kernel
theorem dX7_put_9 : decode cX7_put 9 = .ok (.iastore, 1) := by decide +kernel
theorem dX7_put_10 : decode cX7_put 10 = .ok (.aload_n 0, 1) := by decide +kernel
theorem dX7_put_11 : decode cX7_put 11 = .ok (.dup, 1) := by decide +kernel
theorem dX7_put_12 : decode cX7_put 12 = .ok (.getfield 218, 3) := by decide +kernel
theorem dX7_put_15 : decode cX7_put 15 = .ok (.iconst 1, 1) := by decide +kernel
theorem dX7_put_16 : decode cX7_put 16 = .ok (.iadd, 1) := by decide +kernel
theorem dX7_put_17 : decode cX7_put 17 = .ok (.putfield 218, 3) := by decide +kernel
theorem dX7_put_20 : decode cX7_put 20 = .ok (.return_, 1) := by decide +kernel
theorem dX7_putNumber_0 : decode cX7_putNumber 0 = .ok (.iload_n 1, 1) := by decide +kernel
theorem dX7_putNumber_1 : decode cX7_putNumber 1 = .ok (.bipush 100, 2) := by decide +kernel
theorem dX7_putNumber_3 : decode cX7_putNumber 3 = .ok (.isub, 1) := by decide +kernel
theorem dX7_putNumber_4 : decode cX7_putNumber 4 = .ok (.istore_n 2, 1) := by decide +kernel
theorem dX7_putNumber_5 : decode cX7_putNumber 5 = .ok (.iload_n 2, 1) := by decide +kernel
theorem dX7_putNumber_6 : decode cX7_putNumber 6 = .ok (.ifCond .ge 12, 3) := by decide +kernel
theorem dX7_putNumber_9 : decode cX7_putNumber 9 = .ok (.aload_n 0, 1) := by decide +kernel
theorem dX7_putNumber_10 : decode cX7_putNumber 10 = .ok (.bipush 45, 2) := by decide +kernel
theorem dX7_putNumber_12 : decode cX7_putNumber 12 = .ok (.invokevirtual 221, 3) := by decide +kernel
theorem dX7_putNumber_15 : decode cX7_putNumber 15 = .ok (.iload_n 2, 1) := by decide +kernel
theorem dX7_putNumber_16 : decode cX7_putNumber 16 = .ok (.ineg, 1) := by decide +kernel
theorem dX7_putNumber_17 : decode cX7_putNumber 17 = .ok (.istore_n 2, 1) := by decide +kernel
theorem dX7_putNumber_18 : decode cX7_putNumber 18 = .ok (.iload_n 2, 1) := by decide +kernel
theorem dX7_putNumber_19 : decode cX7_putNumber 19 = .ok (.bipush 9, 2) := by decide +kernel
theorem dX7_putNumber_21 : decode cX7_putNumber 21 = .ok (.if_icmp .le 14, 3) := by decide +kernel
theorem dX7_putNumber_24 : decode cX7_putNumber 24 = .ok (.aload_n 0, 1) := by decide +kernel
theorem dX7_putNumber_25 : decode cX7_putNumber 25 = .ok (.bipush 48, 2) := by decide +kernel
theorem dX7_putNumber_27 : decode cX7_putNumber 27 = .ok (.iload_n 2, 1) := by decide +kernel
theorem dX7_putNumber_28 : decode cX7_putNumber 28 = .ok (.bipush 10, 2) := by decide +kernel
theorem dX7_putNumber_30 : decode cX7_putNumber 30 = .ok (.idiv, 1) := by decide +kernel
theorem dX7_putNumber_31 : decode cX7_putNumber 31 = .ok (.iadd, 1) := by decide +kernel
theorem dX7_putNumber_32 : decode cX7_putNumber 32 = .ok (.invokevirtual 221, 3) := by decide +kernel
theorem dX7_putNumber_35 : decode cX7_putNumber 35 = .ok (.aload_n 0, 1) := by decide +kernel
theorem dX7_putNumber_36 : decode cX7_putNumber 36 = .ok (.bipush 48, 2) := by decide +kernel
theorem dX7_putNumber_38 : decode cX7_putNumber 38 = .ok (.iload_n 2, 1) := by decide +kernel
theorem dX7_putNumber_39 : decode cX7_putNumber 39 = .ok (.bipush 10, 2) := by decide +kernel
theorem dX7_putNumber_41 : decode cX7_putNumber 41 = .ok (.irem, 1) := by decide +kernel
theorem dX7_putNumber_42 : decode cX7_putNumber 42 = .ok (.iadd, 1) := by decide +kernel
theorem dX7_putNumber_43 : decode cX7_putNumber 43 = .ok (.invokevirtual 221, 3) := by decide +kernel
theorem dX7_putNumber_46 : decode cX7_putNumber 46 = .ok (.return_, 1) := by decide +kernel
theorem dX7_layCell_0 : decode cX7_layCell 0 = .ok (.aload_n 0, 1) := by decide +kernel
theorem dX7_layCell_1 : decode cX7_layCell 1 = .ok (.iconst 0, 1) := by decide +kernel
theorem dX7_layCell_2 : decode cX7_layCell 2 = .ok (.putfield 218, 3) := by decide +kernel
theorem dX7_layCell_5 : decode cX7_layCell 5 = .ok (.aload_n 0, 1) := by decide +kernel
theorem dX7_layCell_6 : decode cX7_layCell 6 = .ok (.bipush 48, 2) := by decide +kernel
theorem dX7_layCell_8 : decode cX7_layCell 8 = .ok (.iload_n 1, 1) := by decide +kernel
theorem dX7_layCell_9 : decode cX7_layCell 9 = .ok (.iadd, 1) := by decide +kernel
theorem dX7_layCell_10 : decode cX7_layCell 10 = .ok (.invokevirtual 221, 3) := by decide +kernel
theorem dX7_layCell_13 : decode cX7_layCell 13 = .ok (.aload_n 0, 1) := by decide +kernel
theorem dX7_layCell_14 : decode cX7_layCell 14 = .ok (.bipush 47, 2) := by decide +kernel
theorem dX7_layCell_16 : decode cX7_layCell 16 = .ok (.invokevirtual 221, 3) := by decide +kernel
theorem dX7_layCell_19 : decode cX7_layCell 19 = .ok (.aload_n 0, 1) := by decide +kernel
theorem dX7_layCell_20 : decode cX7_layCell 20 = .ok (.bipush 48, 2) := by decide +kernel
theorem dX7_layCell_22 : decode cX7_layCell 22 = .ok (.iload_n 2, 1) := by decide +kernel
theorem dX7_layCell_23 : decode cX7_layCell 23 = .ok (.iadd, 1) := by decide +kernel
theorem dX7_layCell_24 : decode cX7_layCell 24 = .ok (.invokevirtual 221, 3) := by decide +kernel
theorem dX7_layCell_27 : decode cX7_layCell 27 = .ok (.aload_n 0, 1) := by decide +kernel
theorem dX7_layCell_28 : decode cX7_layCell 28 = .ok (.bipush 32, 2) := by decide +kernel
theorem dX7_layCell_30 : decode cX7_layCell 30 = .ok (.invokevirtual 221, 3) := by decide +kernel
theorem dX7_layCell_33 : decode cX7_layCell 33 = .ok (.aload_n 0, 1) := by decide +kernel
theorem dX7_layCell_34 : decode cX7_layCell 34 = .ok (.aload_n 0, 1) := by decide +kernel
theorem dX7_layCell_35 : decode cX7_layCell 35 = .ok (.iload_n 1, 1) := by decide +kernel
theorem dX7_layCell_36 : decode cX7_layCell 36 = .ok (.iload_n 2, 1) := by decide +kernel
theorem dX7_layCell_37 : decode cX7_layCell 37 = .ok (.invokevirtual 126, 3) := by decide +kernel
theorem dX7_layCell_40 : decode cX7_layCell 40 = .ok (.invokevirtual 224, 3) := by decide +kernel
theorem dX7_layCell_43 : decode cX7_layCell 43 = .ok (.return_, 1) := by decide +kernel
theorem dX7_layPair_0 : decode cX7_layPair 0 = .ok (.aload_n 0, 1) := by decide +kernel
theorem dX7_layPair_1 : decode cX7_layPair 1 = .ok (.iconst 0, 1) := by decide +kernel
theorem dX7_layPair_2 : decode cX7_layPair 2 = .ok (.putfield 218, 3) := by decide +kernel
theorem dX7_layPair_5 : decode cX7_layPair 5 = .ok (.aload_n 0, 1) := by decide +kernel
theorem dX7_layPair_6 : decode cX7_layPair 6 = .ok (.bipush 97, 2) := by decide +kernel
theorem dX7_layPair_8 : decode cX7_layPair 8 = .ok (.iload_n 1, 1) := by decide +kernel
theorem dX7_layPair_9 : decode cX7_layPair 9 = .ok (.iadd, 1) := by decide +kernel
theorem dX7_layPair_10 : decode cX7_layPair 10 = .ok (.invokevirtual 221, 3) := by decide +kernel
theorem dX7_layPair_13 : decode cX7_layPair 13 = .ok (.aload_n 0, 1) := by decide +kernel
theorem dX7_layPair_14 : decode cX7_layPair 14 = .ok (.bipush 97, 2) := by decide +kernel
theorem dX7_layPair_16 : decode cX7_layPair 16 = .ok (.iload_n 2, 1) := by decide +kernel
theorem dX7_layPair_17 : decode cX7_layPair 17 = .ok (.iadd, 1) := by decide +kernel
theorem dX7_layPair_18 : decode cX7_layPair 18 = .ok (.invokevirtual 221, 3) := by decide +kernel
theorem dX7_layPair_21 : decode cX7_layPair 21 = .ok (.aload_n 0, 1) := by decide +kernel
theorem dX7_layPair_22 : decode cX7_layPair 22 = .ok (.bipush 32, 2) := by decide +kernel
theorem dX7_layPair_24 : decode cX7_layPair 24 = .ok (.invokevirtual 221, 3) := by decide +kernel
theorem dX7_layPair_27 : decode cX7_layPair 27 = .ok (.aload_n 0, 1) := by decide +kernel
theorem dX7_layPair_28 : decode cX7_layPair 28 = .ok (.aload_n 0, 1) := by decide +kernel
theorem dX7_layPair_29 : decode cX7_layPair 29 = .ok (.iload_n 1, 1) := by decide +kernel
theorem dX7_layPair_30 : decode cX7_layPair 30 = .ok (.iload_n 2, 1) := by decide +kernel
theorem dX7_layPair_31 : decode cX7_layPair 31 = .ok (.invokevirtual 105, 3) := by decide +kernel
theorem dX7_layPair_34 : decode cX7_layPair 34 = .ok (.invokevirtual 224, 3) := by decide +kernel
theorem dX7_layPair_37 : decode cX7_layPair 37 = .ok (.return_, 1) := by decide +kernel
theorem dX7_layLine_0 : decode cX7_layLine 0 = .ok (.aload_n 0, 1) := by decide +kernel
theorem dX7_layLine_1 : decode cX7_layLine 1 = .ok (.getfield 35, 3) := by decide +kernel
theorem dX7_layLine_4 : decode cX7_layLine 4 = .ok (.iconst 0, 1) := by decide +kernel
theorem dX7_layLine_5 : decode cX7_layLine 5 = .ok (.iaload, 1) := by decide +kernel
theorem dX7_layLine_6 : decode cX7_layLine 6 = .ok (.aload_n 0, 1) := by decide +kernel
theorem dX7_layLine_7 : decode cX7_layLine 7 = .ok (.getfield 35, 3) := by decide +kernel
theorem dX7_layLine_10 : decode cX7_layLine 10 = .ok (.iconst 1, 1) := by decide +kernel
theorem dX7_layLine_11 : decode cX7_layLine 11 = .ok (.iaload, 1) := by decide +kernel
theorem dX7_layLine_12 : decode cX7_layLine 12 = .ok (.imul, 1) := by decide +kernel
theorem dX7_layLine_13 : decode cX7_layLine 13 = .ok (.istore_n 2, 1) := by decide +kernel
theorem dX7_layLine_14 : decode cX7_layLine 14 = .ok (.iload_n 1, 1) := by decide +kernel
theorem dX7_layLine_15 : decode cX7_layLine 15 = .ok (.i2l, 1) := by decide +kernel
theorem dX7_layLine_16 : decode cX7_layLine 16 = .ok (.lconst 0, 1) := by decide +kernel
theorem dX7_layLine_17 : decode cX7_layLine 17 = .ok (.iload_n 2, 1) := by decide +kernel
theorem dX7_layLine_18 : decode cX7_layLine 18 = .ok (.iconst 1, 1) := by decide +kernel
theorem dX7_layLine_19 : decode cX7_layLine 19 = .ok (.isub, 1) := by decide +kernel
theorem dX7_layLine_20 : decode cX7_layLine 20 = .ok (.i2l, 1) := by decide +kernel
theorem dX7_layLine_21 : decode cX7_layLine 21 = .ok (.invokestatic 53, 3) := by decide +kernel
theorem dX7_layLine_24 : decode cX7_layLine 24 = .ok (.ifCond .eq 25, 3) := by decide +kernel
theorem dX7_layLine_27 : decode cX7_layLine 27 = .ok (.aload_n 0, 1) := by decide +kernel
theorem dX7_layLine_28 : decode cX7_layLine 28 = .ok (.iload_n 1, 1) := by decide +kernel
theorem dX7_layLine_29 : decode cX7_layLine 29 = .ok (.aload_n 0, 1) := by decide +kernel
theorem dX7_layLine_30 : decode cX7_layLine 30 = .ok (.getfield 35, 3) := by decide +kernel
theorem dX7_layLine_33 : decode cX7_layLine 33 = .ok (.iconst 0, 1) := by decide +kernel
theorem dX7_layLine_34 : decode cX7_layLine 34 = .ok (.iaload, 1) := by decide +kernel
theorem dX7_layLine_35 : decode cX7_layLine 35 = .ok (.idiv, 1) := by decide +kernel
theorem dX7_layLine_36 : decode cX7_layLine 36 = .ok (.iload_n 1, 1) := by decide +kernel
theorem dX7_layLine_37 : decode cX7_layLine 37 = .ok (.aload_n 0, 1) := by decide +kernel
theorem dX7_layLine_38 : decode cX7_layLine 38 = .ok (.getfield 35, 3) := by decide +kernel
theorem dX7_layLine_41 : decode cX7_layLine 41 = .ok (.iconst 0, 1) := by decide +kernel
theorem dX7_layLine_42 : decode cX7_layLine 42 = .ok (.iaload, 1) := by decide +kernel
theorem dX7_layLine_43 : decode cX7_layLine 43 = .ok (.irem, 1) := by decide +kernel
theorem dX7_layLine_44 : decode cX7_layLine 44 = .ok (.invokevirtual 227, 3) := by decide +kernel
theorem dX7_layLine_47 : decode cX7_layLine 47 = .ok (.iconst 1, 1) := by decide +kernel
theorem dX7_layLine_48 : decode cX7_layLine 48 = .ok (.ireturn, 1) := by decide +kernel
theorem dX7_layLine_49 : decode cX7_layLine 49 = .ok (.iload_n 2, 1) := by decide +kernel
theorem dX7_layLine_50 : decode cX7_layLine 50 = .ok (.istore_n 3, 1) := by decide +kernel
theorem dX7_layLine_51 : decode cX7_layLine 51 = .ok (.iconst 0, 1) := by decide +kernel
theorem dX7_layLine_52 : decode cX7_layLine 52 = .ok (.istore 4, 2) := by decide +kernel
theorem dX7_layLine_54 : decode cX7_layLine 54 = .ok (.iload 4, 2) := by decide +kernel
theorem dX7_layLine_56 : decode cX7_layLine 56 = .ok (.bipush 64, 2) := by decide +kernel
theorem dX7_layLine_58 : decode cX7_layLine 58 = .ok (.if_icmp .ge 68, 3) := by decide +kernel
theorem dX7_layLine_61 : decode cX7_layLine 61 = .ok (.iload_n 1, 1) := by decide +kernel
theorem dX7_layLine_62 : decode cX7_layLine 62 = .ok (.iload_n 2, 1) := by decide +kernel
theorem dX7_layLine_63 : decode cX7_layLine 63 = .ok (.if_icmp .lt 63, 3) := by decide +kernel
theorem dX7_layLine_66 : decode cX7_layLine 66 = .ok (.aload_n 0, 1) := by decide +kernel
theorem dX7_layLine_67 : decode cX7_layLine 67 = .ok (.getfield 7, 3) := by decide +kernel
theorem dX7_layLine_70 : decode cX7_layLine 70 = .ok (.bipush 94, 2) := by decide +kernel
theorem dX7_layLine_72 : decode cX7_layLine 72 = .ok (.iload 4, 2) := by decide +kernel
theorem dX7_layLine_74 : decode cX7_layLine 74 = .ok (.iadd, 1) := by decide +kernel
theorem dX7_layLine_75 : decode cX7_layLine 75 = .ok (.iaload, 1) := by decide +kernel
theorem dX7_layLine_76 : decode cX7_layLine 76 = .ok (.ifCond .le 44, 3) := by decide +kernel
theorem dX7_layLine_79 : decode cX7_layLine 79 = .ok (.aload_n 0, 1) := by decide +kernel
theorem dX7_layLine_80 : decode cX7_layLine 80 = .ok (.iload 4, 2) := by decide +kernel
theorem dX7_layLine_82 : decode cX7_layLine 82 = .ok (.bipush 8, 2) := by decide +kernel
theorem dX7_layLine_84 : decode cX7_layLine 84 = .ok (.idiv, 1) := by decide +kernel
theorem dX7_layLine_85 : decode cX7_layLine 85 = .ok (.iload 4, 2) := by decide +kernel
theorem dX7_layLine_87 : decode cX7_layLine 87 = .ok (.bipush 8, 2) := by decide +kernel
theorem dX7_layLine_89 : decode cX7_layLine 89 = .ok (.irem, 1) := by decide +kernel
theorem dX7_layLine_90 : decode cX7_layLine 90 = .ok (.invokevirtual 123, 3) := by decide +kernel
theorem dX7_layLine_93 : decode cX7_layLine 93 = .ok (.ifCond .eq 27, 3) := by decide +kernel
theorem dX7_layLine_96 : decode cX7_layLine 96 = .ok (.iload_n 3, 1) := by decide +kernel
theorem dX7_layLine_97 : decode cX7_layLine 97 = .ok (.iload_n 1, 1) := by decide +kernel
theorem dX7_layLine_98 : decode cX7_layLine 98 = .ok (.if_icmp .ne 19, 3) := by decide +kernel
theorem dX7_layLine_101 : decode cX7_layLine 101 = .ok (.aload_n 0, 1) := by decide +kernel
theorem dX7_layLine_102 : decode cX7_layLine 102 = .ok (.iload 4, 2) := by decide +kernel
theorem dX7_layLine_104 : decode cX7_layLine 104 = .ok (.bipush 8, 2) := by decide +kernel
theorem dX7_layLine_106 : decode cX7_layLine 106 = .ok (.idiv, 1) := by decide +kernel
theorem dX7_layLine_107 : decode cX7_layLine 107 = .ok (.iload 4, 2) := by decide +kernel
theorem dX7_layLine_109 : decode cX7_layLine 109 = .ok (.bipush 8, 2) := by decide +kernel
theorem dX7_layLine_111 : decode cX7_layLine 111 = .ok (.irem, 1) := by decide +kernel
theorem dX7_layLine_112 : decode cX7_layLine 112 = .ok (.invokevirtual 230, 3) := by decide +kernel
theorem dX7_layLine_115 : decode cX7_layLine 115 = .ok (.iconst 1, 1) := by decide +kernel
theorem dX7_layLine_116 : decode cX7_layLine 116 = .ok (.ireturn, 1) := by decide +kernel
theorem dX7_layLine_117 : decode cX7_layLine 117 = .ok (.iinc 3 1, 3) := by decide +kernel
theorem dX7_layLine_120 : decode cX7_layLine 120 = .ok (.iinc 4 1, 3) := by decide +kernel
theorem dX7_layLine_123 : decode cX7_layLine 123 = .ok (.goto (-69), 3) := by decide +kernel
theorem dX7_layLine_126 : decode cX7_layLine 126 = .ok (.iconst 0, 1) := by decide +kernel
theorem dX7_layLine_127 : decode cX7_layLine 127 = .ok (.ireturn, 1) := by decide +kernel
theorem dX7_line_0 : decode cX7_line 0 = .ok (.aload_n 0, 1) := by decide +kernel
theorem dX7_line_1 : decode cX7_line 1 = .ok (.invokevirtual 233, 3) := by decide +kernel
theorem dX7_line_4 : decode cX7_line 4 = .ok (.aload_n 0, 1) := by decide +kernel
theorem dX7_line_5 : decode cX7_line 5 = .ok (.iload_n 1, 1) := by decide +kernel
theorem dX7_line_6 : decode cX7_line 6 = .ok (.invokevirtual 236, 3) := by decide +kernel
theorem dX7_line_9 : decode cX7_line 9 = .ok (.ifCond .ne 6, 3) := by decide +kernel
theorem dX7_line_12 : decode cX7_line 12 = .ok (.ldc 239, 2) := by decide +kernel
theorem dX7_line_14 : decode cX7_line 14 = .ok (.ireturn, 1) := by decide +kernel
theorem dX7_line_15 : decode cX7_line 15 = .ok (.iload_n 2, 1) := by decide +kernel
theorem dX7_line_16 : decode cX7_line 16 = .ok (.ifCond .ge 8, 3) := by decide +kernel
theorem dX7_line_19 : decode cX7_line 19 = .ok (.ldc 210, 2) := by decide +kernel
theorem dX7_line_21 : decode cX7_line 21 = .ok (.goto 21, 3) := by decide +kernel
theorem dX7_line_24 : decode cX7_line 24 = .ok (.iload_n 2, 1) := by decide +kernel
theorem dX7_line_25 : decode cX7_line 25 = .ok (.aload_n 0, 1) := by decide +kernel
theorem dX7_line_26 : decode cX7_line 26 = .ok (.getfield 218, 3) := by decide +kernel
theorem dX7_line_29 : decode cX7_line 29 = .ok (.if_icmp .ge 12, 3) := by decide +kernel
theorem dX7_line_32 : decode cX7_line 32 = .ok (.aload_n 0, 1) := by decide +kernel
theorem dX7_line_33 : decode cX7_line 33 = .ok (.getfield 38, 3) := by decide +kernel
theorem dX7_line_36 : decode cX7_line 36 = .ok (.iload_n 2, 1) := by decide +kernel
theorem dX7_line_37 : decode cX7_line 37 = .ok (.iaload, 1) := by decide +kernel
theorem dX7_line_38 : decode cX7_line 38 = .ok (.goto 4, 3) := by decide +kernel
theorem dX7_line_41 : decode cX7_line 41 = .ok (.iconst (-1), 1) := by decide +kernel
theorem dX7_line_42 : decode cX7_line 42 = .ok (.ireturn, 1) := by decide +kernel
theorem dX7_wrong_0 : decode cX7_wrong 0 = .ok (.iconst 0, 1) := by decide +kernel
theorem dX7_wrong_1 : decode cX7_wrong 1 = .ok (.istore_n 1, 1) := by decide +kernel
theorem dX7_wrong_2 : decode cX7_wrong 2 = .ok (.iload_n 1, 1) := by decide +kernel
theorem dX7_wrong_3 : decode cX7_wrong 3 = .ok (.aload_n 0, 1) := by decide +kernel
theorem dX7_wrong_4 : decode cX7_wrong 4 = .ok (.getfield 240, 3) := by decide +kernel
theorem dX7_wrong_7 : decode cX7_wrong 7 = .ok (.if_icmp .ge 65, 3) := by decide +kernel
theorem dX7_wrong_10 : decode cX7_wrong 10 = .ok (.aload_n 0, 1) := by decide +kernel
theorem dX7_wrong_11 : decode cX7_wrong 11 = .ok (.aload_n 0, 1) := by decide +kernel
theorem dX7_wrong_12 : decode cX7_wrong 12 = .ok (.getfield 23, 3) := by decide +kernel
theorem dX7_wrong_15 : decode cX7_wrong 15 = .ok (.iload_n 1, 1) := by decide +kernel
theorem dX7_wrong_16 : decode cX7_wrong 16 = .ok (.iaload, 1) := by decide +kernel
theorem dX7_wrong_17 : decode cX7_wrong 17 = .ok (.invokevirtual 69, 3) := by decide +kernel
theorem dX7_wrong_20 : decode cX7_wrong 20 = .ok (.ifCond .eq 44, 3) := by decide +kernel
theorem dX7_wrong_23 : decode cX7_wrong 23 = .ok (.aload_n 0, 1) := by decide +kernel
theorem dX7_wrong_24 : decode cX7_wrong 24 = .ok (.aload_n 0, 1) := by decide +kernel
theorem dX7_wrong_25 : decode cX7_wrong 25 = .ok (.getfield 26, 3) := by decide +kernel
theorem dX7_wrong_28 : decode cX7_wrong 28 = .ok (.iload_n 1, 1) := by decide +kernel
theorem dX7_wrong_29 : decode cX7_wrong 29 = .ok (.iaload, 1) := by decide +kernel
theorem dX7_wrong_30 : decode cX7_wrong 30 = .ok (.invokevirtual 69, 3) := by decide +kernel
theorem dX7_wrong_33 : decode cX7_wrong 33 = .ok (.ifCond .eq 31, 3) := by decide +kernel
theorem dX7_wrong_36 : decode cX7_wrong 36 = .ok (.aload_n 0, 1) := by decide +kernel
theorem dX7_wrong_37 : decode cX7_wrong 37 = .ok (.aload_n 0, 1) := by decide +kernel
theorem dX7_wrong_38 : decode cX7_wrong 38 = .ok (.getfield 23, 3) := by decide +kernel
theorem dX7_wrong_41 : decode cX7_wrong 41 = .ok (.iload_n 1, 1) := by decide +kernel
theorem dX7_wrong_42 : decode cX7_wrong 42 = .ok (.iaload, 1) := by decide +kernel
theorem dX7_wrong_43 : decode cX7_wrong 43 = .ok (.aload_n 0, 1) := by decide +kernel
theorem dX7_wrong_44 : decode cX7_wrong 44 = .ok (.getfield 26, 3) := by decide +kernel
theorem dX7_wrong_47 : decode cX7_wrong 47 = .ok (.iload_n 1, 1) := by decide +kernel
theorem dX7_wrong_48 : decode cX7_wrong 48 = .ok (.iaload, 1) := by decide +kernel
theorem dX7_wrong_49 : decode cX7_wrong 49 = .ok (.invokevirtual 129, 3) := by decide +kernel
theorem dX7_wrong_52 : decode cX7_wrong 52 = .ok (.bipush 100, 2) := by decide +kernel
theorem dX7_wrong_54 : decode cX7_wrong 54 = .ok (.isub, 1) := by decide +kernel
theorem dX7_wrong_55 : decode cX7_wrong 55 = .ok (.aload_n 0, 1) := by decide +kernel
theorem dX7_wrong_56 : decode cX7_wrong 56 = .ok (.getfield 29, 3) := by decide +kernel
theorem dX7_wrong_59 : decode cX7_wrong 59 = .ok (.iload_n 1, 1) := by decide +kernel
theorem dX7_wrong_60 : decode cX7_wrong 60 = .ok (.iaload, 1) := by decide +kernel
theorem dX7_wrong_61 : decode cX7_wrong 61 = .ok (.if_icmp .eq 5, 3) := by decide +kernel
theorem dX7_wrong_64 : decode cX7_wrong 64 = .ok (.iload_n 1, 1) := by decide +kernel
theorem dX7_wrong_65 : decode cX7_wrong 65 = .ok (.ireturn, 1) := by decide +kernel
theorem dX7_wrong_66 : decode cX7_wrong 66 = .ok (.iinc 1 1, 3) := by decide +kernel
theorem dX7_wrong_69 : decode cX7_wrong 69 = .ok (.goto (-67), 3) := by decide +kernel
theorem dX7_wrong_72 : decode cX7_wrong 72 = .ok (.iconst (-1), 1) := by decide +kernel
theorem dX7_wrong_73 : decode cX7_wrong 73 = .ok (.ireturn, 1) := by decide +kernel
theorem dX7_toldMore_0 : decode cX7_toldMore 0 = .ok (.iload_n 1, 1) := by decide +kernel
theorem dX7_toldMore_1 : decode cX7_toldMore 1 = .ok (.tableswitch 89 7 16 #[55, 55, 55, 55, 55, 64, 69, 74, 79, 84], 55) := by decide +kernel
theorem dX7_toldMore_56 : decode cX7_toldMore 56 = .ok (.aload_n 0, 1) := by decide +kernel
theorem dX7_toldMore_57 : decode cX7_toldMore 57 = .ok (.iload_n 1, 1) := by decide +kernel
theorem dX7_toldMore_58 : decode cX7_toldMore 58 = .ok (.bipush 7, 2) := by decide +kernel
theorem dX7_toldMore_60 : decode cX7_toldMore 60 = .ok (.isub, 1) := by decide +kernel
theorem dX7_toldMore_61 : decode cX7_toldMore 61 = .ok (.invokevirtual 65, 3) := by decide +kernel
theorem dX7_toldMore_64 : decode cX7_toldMore 64 = .ok (.ireturn, 1) := by decide +kernel
theorem dX7_toldMore_65 : decode cX7_toldMore 65 = .ok (.aload_n 0, 1) := by decide +kernel
theorem dX7_toldMore_66 : decode cX7_toldMore 66 = .ok (.getfield 135, 3) := by decide +kernel
theorem dX7_toldMore_69 : decode cX7_toldMore 69 = .ok (.ireturn, 1) := by decide +kernel
theorem dX7_toldMore_70 : decode cX7_toldMore 70 = .ok (.aload_n 0, 1) := by decide +kernel
theorem dX7_toldMore_71 : decode cX7_toldMore 71 = .ok (.getfield 240, 3) := by decide +kernel
theorem dX7_toldMore_74 : decode cX7_toldMore 74 = .ok (.ireturn, 1) := by decide +kernel
theorem dX7_toldMore_75 : decode cX7_toldMore 75 = .ok (.aload_n 0, 1) := by decide +kernel
theorem dX7_toldMore_76 : decode cX7_toldMore 76 = .ok (.invokevirtual 243, 3) := by decide +kernel
theorem dX7_toldMore_79 : decode cX7_toldMore 79 = .ok (.ireturn, 1) := by decide +kernel
theorem dX7_toldMore_80 : decode cX7_toldMore 80 = .ok (.aload_n 0, 1) := by decide +kernel
theorem dX7_toldMore_81 : decode cX7_toldMore 81 = .ok (.getfield 48, 3) := by decide +kernel
theorem dX7_toldMore_84 : decode cX7_toldMore 84 = .ok (.ireturn, 1) := by decide +kernel
theorem dX7_toldMore_85 : decode cX7_toldMore 85 = .ok (.aload_n 0, 1) := by decide +kernel
theorem dX7_toldMore_86 : decode cX7_toldMore 86 = .ok (.getfield 246, 3) := by decide +kernel
theorem dX7_toldMore_89 : decode cX7_toldMore 89 = .ok (.ireturn, 1) := by decide +kernel
theorem dX7_toldMore_90 : decode cX7_toldMore 90 = .ok (.ldc 210, 2) := by decide +kernel
theorem dX7_toldMore_92 : decode cX7_toldMore 92 = .ok (.ireturn, 1) := by decide +kernel
theorem dX7_told_0 : decode cX7_told 0 = .ok (.aload_n 0, 1) := by decide +kernel
theorem dX7_told_1 : decode cX7_told 1 = .ok (.invokevirtual 233, 3) := by decide +kernel
theorem dX7_told_4 : decode cX7_told 4 = .ok (.iload_n 1, 1) := by decide +kernel
theorem dX7_told_5 : decode cX7_told 5 = .ok (.tableswitch 93 0 6 #[43, 50, 50, 59, 64, 69, 88], 43) := by decide +kernel
theorem dX7_told_48 : decode cX7_told 48 = .ok (.aload_n 0, 1) := by decide +kernel
theorem dX7_told_49 : decode cX7_told 49 = .ok (.getfield 7, 3) := by decide +kernel
theorem dX7_told_52 : decode cX7_told 52 = .ok (.iconst 0, 1) := by decide +kernel
theorem dX7_told_53 : decode cX7_told 53 = .ok (.iaload, 1) := by decide +kernel
theorem dX7_told_54 : decode cX7_told 54 = .ok (.ireturn, 1) := by decide +kernel
theorem dX7_told_55 : decode cX7_told 55 = .ok (.aload_n 0, 1) := by decide +kernel
theorem dX7_told_56 : decode cX7_told 56 = .ok (.getfield 35, 3) := by decide +kernel
theorem dX7_told_59 : decode cX7_told 59 = .ok (.iload_n 1, 1) := by decide +kernel
theorem dX7_told_60 : decode cX7_told 60 = .ok (.iconst 1, 1) := by decide +kernel
theorem dX7_told_61 : decode cX7_told 61 = .ok (.isub, 1) := by decide +kernel
theorem dX7_told_62 : decode cX7_told 62 = .ok (.iaload, 1) := by decide +kernel
theorem dX7_told_63 : decode cX7_told 63 = .ok (.ireturn, 1) := by decide +kernel
theorem dX7_told_64 : decode cX7_told 64 = .ok (.aload_n 0, 1) := by decide +kernel
theorem dX7_told_65 : decode cX7_told 65 = .ok (.invokevirtual 249, 3) := by decide +kernel
theorem dX7_told_68 : decode cX7_told 68 = .ok (.ireturn, 1) := by decide +kernel
theorem dX7_told_69 : decode cX7_told 69 = .ok (.aload_n 0, 1) := by decide +kernel
theorem dX7_told_70 : decode cX7_told 70 = .ok (.invokevirtual 252, 3) := by decide +kernel
theorem dX7_told_73 : decode cX7_told 73 = .ok (.ireturn, 1) := by decide +kernel
theorem dX7_told_74 : decode cX7_told 74 = .ok (.aload_n 0, 1) := by decide +kernel
theorem dX7_told_75 : decode cX7_told 75 = .ok (.getfield 35, 3) := by decide +kernel
theorem dX7_told_78 : decode cX7_told 78 = .ok (.iconst 0, 1) := by decide +kernel
theorem dX7_told_79 : decode cX7_told 79 = .ok (.iaload, 1) := by decide +kernel
theorem dX7_told_80 : decode cX7_told 80 = .ok (.aload_n 0, 1) := by decide +kernel
theorem dX7_told_81 : decode cX7_told 81 = .ok (.getfield 35, 3) := by decide +kernel
theorem dX7_told_84 : decode cX7_told 84 = .ok (.iconst 1, 1) := by decide +kernel
theorem dX7_told_85 : decode cX7_told 85 = .ok (.iaload, 1) := by decide +kernel
theorem dX7_told_86 : decode cX7_told 86 = .ok (.imul, 1) := by decide +kernel
theorem dX7_told_87 : decode cX7_told 87 = .ok (.aload_n 0, 1) := by decide +kernel
theorem dX7_told_88 : decode cX7_told 88 = .ok (.invokevirtual 252, 3) := by decide +kernel
theorem dX7_told_91 : decode cX7_told 91 = .ok (.iadd, 1) := by decide +kernel
theorem dX7_told_92 : decode cX7_told 92 = .ok (.ireturn, 1) := by decide +kernel
theorem dX7_told_93 : decode cX7_told 93 = .ok (.aload_n 0, 1) := by decide +kernel
theorem dX7_told_94 : decode cX7_told 94 = .ok (.invokevirtual 255, 3) := by decide +kernel
theorem dX7_told_97 : decode cX7_told 97 = .ok (.ireturn, 1) := by decide +kernel
theorem dX7_told_98 : decode cX7_told 98 = .ok (.aload_n 0, 1) := by decide +kernel
theorem dX7_told_99 : decode cX7_told 99 = .ok (.iload_n 1, 1) := by decide +kernel
theorem dX7_told_100 : decode cX7_told 100 = .ok (.invokevirtual 258, 3) := by decide +kernel
theorem dX7_told_103 : decode cX7_told 103 = .ok (.ireturn, 1) := by decide +kernel
theorem dX7_edge_0 : decode cX7_edge 0 = .ok (.aload_n 0, 1) := by decide +kernel
theorem dX7_edge_1 : decode cX7_edge 1 = .ok (.iload_n 1, 1) := by decide +kernel
theorem dX7_edge_2 : decode cX7_edge 2 = .ok (.invokevirtual 69, 3) := by decide +kernel
theorem dX7_edge_5 : decode cX7_edge 5 = .ok (.ifCond .ne 6, 3) := by decide +kernel
theorem dX7_edge_8 : decode cX7_edge 8 = .ok (.ldc 239, 2) := by decide +kernel
theorem dX7_edge_10 : decode cX7_edge 10 = .ok (.ireturn, 1) := by decide +kernel
theorem dX7_edge_11 : decode cX7_edge 11 = .ok (.iload_n 2, 1) := by decide +kernel
theorem dX7_edge_12 : decode cX7_edge 12 = .ok (.i2l, 1) := by decide +kernel
theorem dX7_edge_13 : decode cX7_edge 13 = .ok (.lconst 0, 1) := by decide +kernel
theorem dX7_edge_14 : decode cX7_edge 14 = .ok (.lconst 1, 1) := by decide +kernel
theorem dX7_edge_15 : decode cX7_edge 15 = .ok (.invokestatic 53, 3) := by decide +kernel
theorem dX7_edge_18 : decode cX7_edge 18 = .ok (.ifCond .eq 25, 3) := by decide +kernel
theorem dX7_edge_21 : decode cX7_edge 21 = .ok (.iload_n 3, 1) := by decide +kernel
theorem dX7_edge_22 : decode cX7_edge 22 = .ok (.i2l, 1) := by decide +kernel
theorem dX7_edge_23 : decode cX7_edge 23 = .ok (.lconst 0, 1) := by decide +kernel
theorem dX7_edge_24 : decode cX7_edge 24 = .ok (.ldc2_w 261, 3) := by decide +kernel
theorem dX7_edge_27 : decode cX7_edge 27 = .ok (.invokestatic 53, 3) := by decide +kernel
theorem dX7_edge_30 : decode cX7_edge 30 = .ok (.ifCond .eq 13, 3) := by decide +kernel
theorem dX7_edge_33 : decode cX7_edge 33 = .ok (.aload_n 0, 1) := by decide +kernel
theorem dX7_edge_34 : decode cX7_edge 34 = .ok (.iload_n 1, 1) := by decide +kernel
theorem dX7_edge_35 : decode cX7_edge 35 = .ok (.iload_n 2, 1) := by decide +kernel
theorem dX7_edge_36 : decode cX7_edge 36 = .ok (.iload_n 3, 1) := by decide +kernel
theorem dX7_edge_37 : decode cX7_edge 37 = .ok (.invokevirtual 61, 3) := by decide +kernel
theorem dX7_edge_40 : decode cX7_edge 40 = .ok (.goto 5, 3) := by decide +kernel
theorem dX7_edge_43 : decode cX7_edge 43 = .ok (.ldc 210, 2) := by decide +kernel
theorem dX7_edge_45 : decode cX7_edge 45 = .ok (.ireturn, 1) := by decide +kernel
theorem dX7_at_0 : decode cX7_at 0 = .ok (.aload_n 0, 1) := by decide +kernel
theorem dX7_at_1 : decode cX7_at 1 = .ok (.iload_n 1, 1) := by decide +kernel
theorem dX7_at_2 : decode cX7_at 2 = .ok (.invokevirtual 69, 3) := by decide +kernel
theorem dX7_at_5 : decode cX7_at 5 = .ok (.ifCond .ne 6, 3) := by decide +kernel
theorem dX7_at_8 : decode cX7_at 8 = .ok (.ldc 239, 2) := by decide +kernel
theorem dX7_at_10 : decode cX7_at 10 = .ok (.ireturn, 1) := by decide +kernel
theorem dX7_at_11 : decode cX7_at 11 = .ok (.aload_n 0, 1) := by decide +kernel
theorem dX7_at_12 : decode cX7_at 12 = .ok (.invokevirtual 233, 3) := by decide +kernel
theorem dX7_at_15 : decode cX7_at 15 = .ok (.iload_n 2, 1) := by decide +kernel
theorem dX7_at_16 : decode cX7_at 16 = .ok (.ifCond .ne 15, 3) := by decide +kernel
theorem dX7_at_19 : decode cX7_at 19 = .ok (.aload_n 0, 1) := by decide +kernel
theorem dX7_at_20 : decode cX7_at 20 = .ok (.getfield 7, 3) := by decide +kernel
theorem dX7_at_23 : decode cX7_at 23 = .ok (.bipush 86, 2) := by decide +kernel
theorem dX7_at_25 : decode cX7_at 25 = .ok (.iload_n 1, 1) := by decide +kernel
theorem dX7_at_26 : decode cX7_at 26 = .ok (.iadd, 1) := by decide +kernel
theorem dX7_at_27 : decode cX7_at 27 = .ok (.iaload, 1) := by decide +kernel
theorem dX7_at_28 : decode cX7_at 28 = .ok (.goto 36, 3) := by decide +kernel
theorem dX7_at_31 : decode cX7_at 31 = .ok (.iload_n 2, 1) := by decide +kernel
theorem dX7_at_32 : decode cX7_at 32 = .ok (.iconst 1, 1) := by decide +kernel
theorem dX7_at_33 : decode cX7_at 33 = .ok (.if_icmp .ne 12, 3) := by decide +kernel
theorem dX7_at_36 : decode cX7_at 36 = .ok (.aload_n 0, 1) := by decide +kernel
theorem dX7_at_37 : decode cX7_at 37 = .ok (.getfield 32, 3) := by decide +kernel
theorem dX7_at_40 : decode cX7_at 40 = .ok (.iload_n 1, 1) := by decide +kernel
theorem dX7_at_41 : decode cX7_at 41 = .ok (.iaload, 1) := by decide +kernel
theorem dX7_at_42 : decode cX7_at 42 = .ok (.goto 22, 3) := by decide +kernel
theorem dX7_at_45 : decode cX7_at 45 = .ok (.iload_n 2, 1) := by decide +kernel
theorem dX7_at_46 : decode cX7_at 46 = .ok (.iconst 2, 1) := by decide +kernel
theorem dX7_at_47 : decode cX7_at 47 = .ok (.if_icmp .ne 15, 3) := by decide +kernel
theorem dX7_at_50 : decode cX7_at 50 = .ok (.aload_n 0, 1) := by decide +kernel
theorem dX7_at_51 : decode cX7_at 51 = .ok (.getfield 32, 3) := by decide +kernel
theorem dX7_at_54 : decode cX7_at 54 = .ok (.bipush 8, 2) := by decide +kernel
theorem dX7_at_56 : decode cX7_at 56 = .ok (.iload_n 1, 1) := by decide +kernel
theorem dX7_at_57 : decode cX7_at 57 = .ok (.iadd, 1) := by decide +kernel
theorem dX7_at_58 : decode cX7_at 58 = .ok (.iaload, 1) := by decide +kernel
theorem dX7_at_59 : decode cX7_at 59 = .ok (.goto 5, 3) := by decide +kernel
theorem dX7_at_62 : decode cX7_at 62 = .ok (.ldc 210, 2) := by decide +kernel
theorem dX7_at_64 : decode cX7_at 64 = .ok (.ireturn, 1) := by decide +kernel
theorem dX7_far_0 : decode cX7_far 0 = .ok (.aload_n 0, 1) := by decide +kernel
theorem dX7_far_1 : decode cX7_far 1 = .ok (.iload_n 1, 1) := by decide +kernel
theorem dX7_far_2 : decode cX7_far 2 = .ok (.invokevirtual 69, 3) := by decide +kernel
theorem dX7_far_5 : decode cX7_far 5 = .ok (.ifCond .eq 11, 3) := by decide +kernel
theorem dX7_far_8 : decode cX7_far 8 = .ok (.aload_n 0, 1) := by decide +kernel
theorem dX7_far_9 : decode cX7_far 9 = .ok (.iload_n 2, 1) := by decide +kernel
theorem dX7_far_10 : decode cX7_far 10 = .ok (.invokevirtual 69, 3) := by decide +kernel
theorem dX7_far_13 : decode cX7_far 13 = .ok (.ifCond .ne 6, 3) := by decide +kernel
theorem dX7_far_16 : decode cX7_far 16 = .ok (.ldc 239, 2) := by decide +kernel
theorem dX7_far_18 : decode cX7_far 18 = .ok (.ireturn, 1) := by decide +kernel
theorem dX7_far_19 : decode cX7_far 19 = .ok (.iload_n 3, 1) := by decide +kernel
theorem dX7_far_20 : decode cX7_far 20 = .ok (.i2l, 1) := by decide +kernel
theorem dX7_far_21 : decode cX7_far 21 = .ok (.lconst 0, 1) := by decide +kernel
theorem dX7_far_22 : decode cX7_far 22 = .ok (.lconst 1, 1) := by decide +kernel
theorem dX7_far_23 : decode cX7_far 23 = .ok (.invokestatic 53, 3) := by decide +kernel
theorem dX7_far_26 : decode cX7_far 26 = .ok (.ifCond .eq 13, 3) := by decide +kernel
theorem dX7_far_29 : decode cX7_far 29 = .ok (.aload_n 0, 1) := by decide +kernel
theorem dX7_far_30 : decode cX7_far 30 = .ok (.iload_n 1, 1) := by decide +kernel
theorem dX7_far_31 : decode cX7_far 31 = .ok (.iload_n 2, 1) := by decide +kernel
theorem dX7_far_32 : decode cX7_far 32 = .ok (.iload_n 3, 1) := by decide +kernel
theorem dX7_far_33 : decode cX7_far 33 = .ok (.invokevirtual 73, 3) := by decide +kernel
theorem dX7_far_36 : decode cX7_far 36 = .ok (.goto 5, 3) := by decide +kernel
theorem dX7_far_39 : decode cX7_far 39 = .ok (.ldc 210, 2) := by decide +kernel
theorem dX7_far_41 : decode cX7_far 41 = .ok (.ireturn, 1) := by decide +kernel
theorem dX7_pair_0 : decode cX7_pair 0 = .ok (.aload_n 0, 1) := by decide +kernel
theorem dX7_pair_1 : decode cX7_pair 1 = .ok (.iload_n 1, 1) := by decide +kernel
theorem dX7_pair_2 : decode cX7_pair 2 = .ok (.invokevirtual 69, 3) := by decide +kernel
theorem dX7_pair_5 : decode cX7_pair 5 = .ok (.ifCond .eq 11, 3) := by decide +kernel
theorem dX7_pair_8 : decode cX7_pair 8 = .ok (.aload_n 0, 1) := by decide +kernel
theorem dX7_pair_9 : decode cX7_pair 9 = .ok (.iload_n 2, 1) := by decide +kernel
theorem dX7_pair_10 : decode cX7_pair 10 = .ok (.invokevirtual 69, 3) := by decide +kernel
theorem dX7_pair_13 : decode cX7_pair 13 = .ok (.ifCond .ne 6, 3) := by decide +kernel
theorem dX7_pair_16 : decode cX7_pair 16 = .ok (.ldc 239, 2) := by decide +kernel
theorem dX7_pair_18 : decode cX7_pair 18 = .ok (.ireturn, 1) := by decide +kernel
theorem dX7_pair_19 : decode cX7_pair 19 = .ok (.aload_n 0, 1) := by decide +kernel
theorem dX7_pair_20 : decode cX7_pair 20 = .ok (.invokevirtual 233, 3) := by decide +kernel
theorem dX7_pair_23 : decode cX7_pair 23 = .ok (.iload_n 3, 1) := by decide +kernel
theorem dX7_pair_24 : decode cX7_pair 24 = .ok (.tableswitch 104 0 4 #[36, 43, 63, 78, 88], 36) := by decide +kernel
theorem dX7_pair_60 : decode cX7_pair 60 = .ok (.aload_n 0, 1) := by decide +kernel
theorem dX7_pair_61 : decode cX7_pair 61 = .ok (.iload_n 1, 1) := by decide +kernel
theorem dX7_pair_62 : decode cX7_pair 62 = .ok (.iload_n 2, 1) := by decide +kernel
theorem dX7_pair_63 : decode cX7_pair 63 = .ok (.invokevirtual 129, 3) := by decide +kernel
theorem dX7_pair_66 : decode cX7_pair 66 = .ok (.ireturn, 1) := by decide +kernel
theorem dX7_pair_67 : decode cX7_pair 67 = .ok (.aload_n 0, 1) := by decide +kernel
theorem dX7_pair_68 : decode cX7_pair 68 = .ok (.iload_n 1, 1) := by decide +kernel
theorem dX7_pair_69 : decode cX7_pair 69 = .ok (.iload_n 2, 1) := by decide +kernel
theorem dX7_pair_70 : decode cX7_pair 70 = .ok (.invokevirtual 105, 3) := by decide +kernel
theorem dX7_pair_73 : decode cX7_pair 73 = .ok (.ifCond .le 12, 3) := by decide +kernel
theorem dX7_pair_76 : decode cX7_pair 76 = .ok (.aload_n 0, 1) := by decide +kernel
theorem dX7_pair_77 : decode cX7_pair 77 = .ok (.iload_n 1, 1) := by decide +kernel
theorem dX7_pair_78 : decode cX7_pair 78 = .ok (.iload_n 2, 1) := by decide +kernel
theorem dX7_pair_79 : decode cX7_pair 79 = .ok (.invokevirtual 105, 3) := by decide +kernel
theorem dX7_pair_82 : decode cX7_pair 82 = .ok (.goto 4, 3) := by decide +kernel
theorem dX7_pair_85 : decode cX7_pair 85 = .ok (.iconst (-1), 1) := by decide +kernel
theorem dX7_pair_86 : decode cX7_pair 86 = .ok (.ireturn, 1) := by decide +kernel
theorem dX7_pair_87 : decode cX7_pair 87 = .ok (.aload_n 0, 1) := by decide +kernel
theorem dX7_pair_88 : decode cX7_pair 88 = .ok (.iload_n 1, 1) := by decide +kernel
theorem dX7_pair_89 : decode cX7_pair 89 = .ok (.iload_n 2, 1) := by decide +kernel
theorem dX7_pair_90 : decode cX7_pair 90 = .ok (.invokevirtual 123, 3) := by decide +kernel
theorem dX7_pair_93 : decode cX7_pair 93 = .ok (.ifCond .eq 7, 3) := by decide +kernel
theorem dX7_pair_96 : decode cX7_pair 96 = .ok (.iconst 1, 1) := by decide +kernel
theorem dX7_pair_97 : decode cX7_pair 97 = .ok (.goto 4, 3) := by decide +kernel
theorem dX7_pair_100 : decode cX7_pair 100 = .ok (.iconst 0, 1) := by decide +kernel
theorem dX7_pair_101 : decode cX7_pair 101 = .ok (.ireturn, 1) := by decide +kernel
theorem dX7_pair_102 : decode cX7_pair 102 = .ok (.aload_n 0, 1) := by decide +kernel
theorem dX7_pair_103 : decode cX7_pair 103 = .ok (.iload_n 1, 1) := by decide +kernel
theorem dX7_pair_104 : decode cX7_pair 104 = .ok (.iload_n 2, 1) := by decide +kernel
theorem dX7_pair_105 : decode cX7_pair 105 = .ok (.invokevirtual 108, 3) := by decide +kernel
theorem dX7_pair_108 : decode cX7_pair 108 = .ok (.bipush 100, 2) := by decide +kernel
theorem dX7_pair_110 : decode cX7_pair 110 = .ok (.iadd, 1) := by decide +kernel
theorem dX7_pair_111 : decode cX7_pair 111 = .ok (.ireturn, 1) := by decide +kernel
theorem dX7_pair_112 : decode cX7_pair 112 = .ok (.aload_n 0, 1) := by decide +kernel
theorem dX7_pair_113 : decode cX7_pair 113 = .ok (.iload_n 1, 1) := by decide +kernel
theorem dX7_pair_114 : decode cX7_pair 114 = .ok (.iload_n 2, 1) := by decide +kernel
theorem dX7_pair_115 : decode cX7_pair 115 = .ok (.aload_n 0, 1) := by decide +kernel
theorem dX7_pair_116 : decode cX7_pair 116 = .ok (.iload_n 1, 1) := by decide +kernel
theorem dX7_pair_117 : decode cX7_pair 117 = .ok (.iload_n 2, 1) := by decide +kernel
theorem dX7_pair_118 : decode cX7_pair 118 = .ok (.invokevirtual 129, 3) := by decide +kernel
theorem dX7_pair_121 : decode cX7_pair 121 = .ok (.bipush 100, 2) := by decide +kernel
theorem dX7_pair_123 : decode cX7_pair 123 = .ok (.isub, 1) := by decide +kernel
theorem dX7_pair_124 : decode cX7_pair 124 = .ok (.invokevirtual 91, 3) := by decide +kernel
theorem dX7_pair_127 : decode cX7_pair 127 = .ok (.ireturn, 1) := by decide +kernel
theorem dX7_pair_128 : decode cX7_pair 128 = .ok (.ldc 210, 2) := by decide +kernel
theorem dX7_pair_130 : decode cX7_pair 130 = .ok (.ireturn, 1) := by decide +kernel
theorem dX7_cell_0 : decode cX7_cell 0 = .ok (.aload_n 0, 1) := by decide +kernel
theorem dX7_cell_1 : decode cX7_cell 1 = .ok (.invokevirtual 233, 3) := by decide +kernel
theorem dX7_cell_4 : decode cX7_cell 4 = .ok (.iload_n 1, 1) := by decide +kernel
theorem dX7_cell_5 : decode cX7_cell 5 = .ok (.i2l, 1) := by decide +kernel
theorem dX7_cell_6 : decode cX7_cell 6 = .ok (.lconst 0, 1) := by decide +kernel
theorem dX7_cell_7 : decode cX7_cell 7 = .ok (.aload_n 0, 1) := by decide +kernel
theorem dX7_cell_8 : decode cX7_cell 8 = .ok (.getfield 35, 3) := by decide +kernel
theorem dX7_cell_11 : decode cX7_cell 11 = .ok (.iconst 1, 1) := by decide +kernel
theorem dX7_cell_12 : decode cX7_cell 12 = .ok (.iaload, 1) := by decide +kernel
theorem dX7_cell_13 : decode cX7_cell 13 = .ok (.iconst 1, 1) := by decide +kernel
theorem dX7_cell_14 : decode cX7_cell 14 = .ok (.isub, 1) := by decide +kernel
theorem dX7_cell_15 : decode cX7_cell 15 = .ok (.i2l, 1) := by decide +kernel
theorem dX7_cell_16 : decode cX7_cell 16 = .ok (.invokestatic 53, 3) := by decide +kernel
theorem dX7_cell_19 : decode cX7_cell 19 = .ok (.ifCond .eq 21, 3) := by decide +kernel
theorem dX7_cell_22 : decode cX7_cell 22 = .ok (.iload_n 2, 1) := by decide +kernel
theorem dX7_cell_23 : decode cX7_cell 23 = .ok (.i2l, 1) := by decide +kernel
theorem dX7_cell_24 : decode cX7_cell 24 = .ok (.lconst 0, 1) := by decide +kernel
theorem dX7_cell_25 : decode cX7_cell 25 = .ok (.aload_n 0, 1) := by decide +kernel
theorem dX7_cell_26 : decode cX7_cell 26 = .ok (.getfield 35, 3) := by decide +kernel
theorem dX7_cell_29 : decode cX7_cell 29 = .ok (.iconst 0, 1) := by decide +kernel
theorem dX7_cell_30 : decode cX7_cell 30 = .ok (.iaload, 1) := by decide +kernel
theorem dX7_cell_31 : decode cX7_cell 31 = .ok (.iconst 1, 1) := by decide +kernel
theorem dX7_cell_32 : decode cX7_cell 32 = .ok (.isub, 1) := by decide +kernel
theorem dX7_cell_33 : decode cX7_cell 33 = .ok (.i2l, 1) := by decide +kernel
theorem dX7_cell_34 : decode cX7_cell 34 = .ok (.invokestatic 53, 3) := by decide +kernel
theorem dX7_cell_37 : decode cX7_cell 37 = .ok (.ifCond .ne 6, 3) := by decide +kernel
theorem dX7_cell_40 : decode cX7_cell 40 = .ok (.ldc 239, 2) := by decide +kernel
theorem dX7_cell_42 : decode cX7_cell 42 = .ok (.ireturn, 1) := by decide +kernel
theorem dX7_cell_43 : decode cX7_cell 43 = .ok (.iload_n 3, 1) := by decide +kernel
theorem dX7_cell_44 : decode cX7_cell 44 = .ok (.tableswitch 119 0 5 #[40, 47, 59, 66, 73, 96], 40) := by decide +kernel
theorem dX7_cell_84 : decode cX7_cell 84 = .ok (.aload_n 0, 1) := by decide +kernel
theorem dX7_cell_85 : decode cX7_cell 85 = .ok (.iload_n 1, 1) := by decide +kernel
theorem dX7_cell_86 : decode cX7_cell 86 = .ok (.iload_n 2, 1) := by decide +kernel
theorem dX7_cell_87 : decode cX7_cell 87 = .ok (.invokevirtual 114, 3) := by decide +kernel
theorem dX7_cell_90 : decode cX7_cell 90 = .ok (.ireturn, 1) := by decide +kernel
theorem dX7_cell_91 : decode cX7_cell 91 = .ok (.aload_n 0, 1) := by decide +kernel
theorem dX7_cell_92 : decode cX7_cell 92 = .ok (.iload_n 1, 1) := by decide +kernel
theorem dX7_cell_93 : decode cX7_cell 93 = .ok (.iload_n 2, 1) := by decide +kernel
theorem dX7_cell_94 : decode cX7_cell 94 = .ok (.iconst 1, 1) := by decide +kernel
theorem dX7_cell_95 : decode cX7_cell 95 = .ok (.sipush 200, 3) := by decide +kernel
theorem dX7_cell_98 : decode cX7_cell 98 = .ok (.iconst 0, 1) := by decide +kernel
theorem dX7_cell_99 : decode cX7_cell 99 = .ok (.invokevirtual 98, 3) := by decide +kernel
theorem dX7_cell_102 : decode cX7_cell 102 = .ok (.ireturn, 1) := by decide +kernel
theorem dX7_cell_103 : decode cX7_cell 103 = .ok (.aload_n 0, 1) := by decide +kernel
theorem dX7_cell_104 : decode cX7_cell 104 = .ok (.iload_n 1, 1) := by decide +kernel
theorem dX7_cell_105 : decode cX7_cell 105 = .ok (.iload_n 2, 1) := by decide +kernel
theorem dX7_cell_106 : decode cX7_cell 106 = .ok (.invokevirtual 111, 3) := by decide +kernel
theorem dX7_cell_109 : decode cX7_cell 109 = .ok (.ireturn, 1) := by decide +kernel
theorem dX7_cell_110 : decode cX7_cell 110 = .ok (.aload_n 0, 1) := by decide +kernel
theorem dX7_cell_111 : decode cX7_cell 111 = .ok (.iload_n 1, 1) := by decide +kernel
theorem dX7_cell_112 : decode cX7_cell 112 = .ok (.iload_n 2, 1) := by decide +kernel
theorem dX7_cell_113 : decode cX7_cell 113 = .ok (.invokevirtual 126, 3) := by decide +kernel
theorem dX7_cell_116 : decode cX7_cell 116 = .ok (.ireturn, 1) := by decide +kernel
theorem dX7_cell_117 : decode cX7_cell 117 = .ok (.aload_n 0, 1) := by decide +kernel
theorem dX7_cell_118 : decode cX7_cell 118 = .ok (.iload_n 1, 1) := by decide +kernel
theorem dX7_cell_119 : decode cX7_cell 119 = .ok (.iload_n 2, 1) := by decide +kernel
theorem dX7_cell_120 : decode cX7_cell 120 = .ok (.invokevirtual 117, 3) := by decide +kernel
theorem dX7_cell_123 : decode cX7_cell 123 = .ok (.aload_n 0, 1) := by decide +kernel
theorem dX7_cell_124 : decode cX7_cell 124 = .ok (.iload_n 1, 1) := by decide +kernel
theorem dX7_cell_125 : decode cX7_cell 125 = .ok (.iload_n 2, 1) := by decide +kernel
theorem dX7_cell_126 : decode cX7_cell 126 = .ok (.invokevirtual 117, 3) := by decide +kernel
theorem dX7_cell_129 : decode cX7_cell 129 = .ok (.aload_n 0, 1) := by decide +kernel
theorem dX7_cell_130 : decode cX7_cell 130 = .ok (.iload_n 1, 1) := by decide +kernel
theorem dX7_cell_131 : decode cX7_cell 131 = .ok (.iload_n 2, 1) := by decide +kernel
theorem dX7_cell_132 : decode cX7_cell 132 = .ok (.invokevirtual 120, 3) := by decide +kernel
theorem dX7_cell_135 : decode cX7_cell 135 = .ok (.invokestatic 263, 3) := by decide +kernel
theorem dX7_cell_138 : decode cX7_cell 138 = .ok (.idiv, 1) := by decide +kernel
theorem dX7_cell_139 : decode cX7_cell 139 = .ok (.ireturn, 1) := by decide +kernel
theorem dX7_cell_140 : decode cX7_cell 140 = .ok (.aload_n 0, 1) := by decide +kernel
theorem dX7_cell_141 : decode cX7_cell 141 = .ok (.iload_n 1, 1) := by decide +kernel
theorem dX7_cell_142 : decode cX7_cell 142 = .ok (.iload_n 2, 1) := by decide +kernel
theorem dX7_cell_143 : decode cX7_cell 143 = .ok (.invokevirtual 120, 3) := by decide +kernel
theorem dX7_cell_146 : decode cX7_cell 146 = .ok (.aload_n 0, 1) := by decide +kernel
theorem dX7_cell_147 : decode cX7_cell 147 = .ok (.iload_n 1, 1) := by decide +kernel
theorem dX7_cell_148 : decode cX7_cell 148 = .ok (.iload_n 2, 1) := by decide +kernel
theorem dX7_cell_149 : decode cX7_cell 149 = .ok (.invokevirtual 117, 3) := by decide +kernel
theorem dX7_cell_152 : decode cX7_cell 152 = .ok (.aload_n 0, 1) := by decide +kernel
theorem dX7_cell_153 : decode cX7_cell 153 = .ok (.iload_n 1, 1) := by decide +kernel
theorem dX7_cell_154 : decode cX7_cell 154 = .ok (.iload_n 2, 1) := by decide +kernel
theorem dX7_cell_155 : decode cX7_cell 155 = .ok (.invokevirtual 120, 3) := by decide +kernel
theorem dX7_cell_158 : decode cX7_cell 158 = .ok (.invokestatic 263, 3) := by decide +kernel
theorem dX7_cell_161 : decode cX7_cell 161 = .ok (.idiv, 1) := by decide +kernel
theorem dX7_cell_162 : decode cX7_cell 162 = .ok (.ireturn, 1) := by decide +kernel
theorem dX7_cell_163 : decode cX7_cell 163 = .ok (.ldc 210, 2) := by decide +kernel
theorem dX7_cell_165 : decode cX7_cell 165 = .ok (.ireturn, 1) := by decide +kernel
theorem dX7_word_0 : decode cX7_word 0 = .ok (.iload_n 1, 1) := by decide +kernel
theorem dX7_word_1 : decode cX7_word 1 = .ok (.i2l, 1) := by decide +kernel
theorem dX7_word_2 : decode cX7_word 2 = .ok (.lconst 1, 1) := by decide +kernel
theorem dX7_word_3 : decode cX7_word 3 = .ok (.ldc2_w 266, 3) := by decide +kernel
theorem dX7_word_6 : decode cX7_word 6 = .ok (.invokestatic 53, 3) := by decide +kernel
theorem dX7_word_9 : decode cX7_word 9 = .ok (.ifCond .ne 6, 3) := by decide +kernel
theorem dX7_word_12 : decode cX7_word 12 = .ok (.ldc 210, 2) := by decide +kernel
theorem dX7_word_14 : decode cX7_word 14 = .ok (.ireturn, 1) := by decide +kernel
theorem dX7_word_15 : decode cX7_word 15 = .ok (.aload_n 0, 1) := by decide +kernel
theorem dX7_word_16 : decode cX7_word 16 = .ok (.getfield 41, 3) := by decide +kernel
theorem dX7_word_19 : decode cX7_word 19 = .ok (.iconst 0, 1) := by decide +kernel
theorem dX7_word_20 : decode cX7_word 20 = .ok (.iload_n 2, 1) := by decide +kernel
theorem dX7_word_21 : decode cX7_word 21 = .ok (.iastore, 1) := by decide +kernel
theorem dX7_word_22 : decode cX7_word 22 = .ok (.aload_n 0, 1) := by decide +kernel
theorem dX7_word_23 : decode cX7_word 23 = .ok (.getfield 41, 3) := by decide +kernel
theorem dX7_word_26 : decode cX7_word 26 = .ok (.iconst 1, 1) := by decide +kernel
theorem dX7_word_27 : decode cX7_word 27 = .ok (.iload_n 3, 1) := by decide +kernel
theorem dX7_word_28 : decode cX7_word 28 = .ok (.iastore, 1) := by decide +kernel
theorem dX7_word_29 : decode cX7_word 29 = .ok (.aload_n 0, 1) := by decide +kernel
theorem dX7_word_30 : decode cX7_word 30 = .ok (.getfield 41, 3) := by decide +kernel
theorem dX7_word_33 : decode cX7_word 33 = .ok (.iconst 2, 1) := by decide +kernel
theorem dX7_word_34 : decode cX7_word 34 = .ok (.iload 4, 2) := by decide +kernel
theorem dX7_word_36 : decode cX7_word 36 = .ok (.iastore, 1) := by decide +kernel
theorem dX7_word_37 : decode cX7_word 37 = .ok (.aload_n 0, 1) := by decide +kernel
theorem dX7_word_38 : decode cX7_word 38 = .ok (.getfield 41, 3) := by decide +kernel
theorem dX7_word_41 : decode cX7_word 41 = .ok (.iconst 3, 1) := by decide +kernel
theorem dX7_word_42 : decode cX7_word 42 = .ok (.iload 5, 2) := by decide +kernel
theorem dX7_word_44 : decode cX7_word 44 = .ok (.iastore, 1) := by decide +kernel
theorem dX7_word_45 : decode cX7_word 45 = .ok (.aload_n 0, 1) := by decide +kernel
theorem dX7_word_46 : decode cX7_word 46 = .ok (.getfield 41, 3) := by decide +kernel
theorem dX7_word_49 : decode cX7_word 49 = .ok (.iconst 4, 1) := by decide +kernel
theorem dX7_word_50 : decode cX7_word 50 = .ok (.iload 6, 2) := by decide +kernel
theorem dX7_word_52 : decode cX7_word 52 = .ok (.iastore, 1) := by decide +kernel
theorem dX7_word_53 : decode cX7_word 53 = .ok (.iconst 0, 1) := by decide +kernel
theorem dX7_word_54 : decode cX7_word 54 = .ok (.istore 7, 2) := by decide +kernel
theorem dX7_word_56 : decode cX7_word 56 = .ok (.iload 7, 2) := by decide +kernel
theorem dX7_word_58 : decode cX7_word 58 = .ok (.iload_n 1, 1) := by decide +kernel
theorem dX7_word_59 : decode cX7_word 59 = .ok (.if_icmp .ge 26, 3) := by decide +kernel
theorem dX7_word_62 : decode cX7_word 62 = .ok (.aload_n 0, 1) := by decide +kernel
theorem dX7_word_63 : decode cX7_word 63 = .ok (.aload_n 0, 1) := by decide +kernel
theorem dX7_word_64 : decode cX7_word 64 = .ok (.getfield 41, 3) := by decide +kernel
theorem dX7_word_67 : decode cX7_word 67 = .ok (.iload 7, 2) := by decide +kernel
theorem dX7_word_69 : decode cX7_word 69 = .ok (.iaload, 1) := by decide +kernel
theorem dX7_word_70 : decode cX7_word 70 = .ok (.invokevirtual 69, 3) := by decide +kernel
theorem dX7_word_73 : decode cX7_word 73 = .ok (.ifCond .ne 6, 3) := by decide +kernel
theorem dX7_word_76 : decode cX7_word 76 = .ok (.ldc 239, 2) := by decide +kernel
theorem dX7_word_78 : decode cX7_word 78 = .ok (.ireturn, 1) := by decide +kernel
theorem dX7_word_79 : decode cX7_word 79 = .ok (.iinc 7 1, 3) := by decide +kernel
theorem dX7_word_82 : decode cX7_word 82 = .ok (.goto (-26), 3) := by decide +kernel
theorem dX7_word_85 : decode cX7_word 85 = .ok (.aload_n 0, 1) := by decide +kernel
theorem dX7_word_86 : decode cX7_word 86 = .ok (.invokevirtual 233, 3) := by decide +kernel
theorem dX7_word_89 : decode cX7_word 89 = .ok (.sipush 1000, 3) := by decide +kernel
theorem dX7_word_92 : decode cX7_word 92 = .ok (.istore 7, 2) := by decide +kernel
theorem dX7_word_94 : decode cX7_word 94 = .ok (.iconst 0, 1) := by decide +kernel
theorem dX7_word_95 : decode cX7_word 95 = .ok (.istore 8, 2) := by decide +kernel
theorem dX7_word_97 : decode cX7_word 97 = .ok (.iload 8, 2) := by decide +kernel
theorem dX7_word_99 : decode cX7_word 99 = .ok (.iload_n 1, 1) := by decide +kernel
theorem dX7_word_100 : decode cX7_word 100 = .ok (.if_icmp .ge 62, 3) := by decide +kernel
theorem dX7_word_103 : decode cX7_word 103 = .ok (.iload 7, 2) := by decide +kernel
theorem dX7_word_105 : decode cX7_word 105 = .ok (.aload_n 0, 1) := by decide +kernel
theorem dX7_word_106 : decode cX7_word 106 = .ok (.getfield 7, 3) := by decide +kernel
theorem dX7_word_109 : decode cX7_word 109 = .ok (.bipush 86, 2) := by decide +kernel
theorem dX7_word_111 : decode cX7_word 111 = .ok (.aload_n 0, 1) := by decide +kernel
theorem dX7_word_112 : decode cX7_word 112 = .ok (.getfield 41, 3) := by decide +kernel
theorem dX7_word_115 : decode cX7_word 115 = .ok (.iload 8, 2) := by decide +kernel
theorem dX7_word_117 : decode cX7_word 117 = .ok (.iaload, 1) := by decide +kernel
theorem dX7_word_118 : decode cX7_word 118 = .ok (.iadd, 1) := by decide +kernel
theorem dX7_word_119 : decode cX7_word 119 = .ok (.iaload, 1) := by decide +kernel
theorem dX7_word_120 : decode cX7_word 120 = .ok (.iload 8, 2) := by decide +kernel
theorem dX7_word_122 : decode cX7_word 122 = .ok (.ifCond .le 29, 3) := by decide +kernel
theorem dX7_word_125 : decode cX7_word 125 = .ok (.aload_n 0, 1) := by decide +kernel
theorem dX7_word_126 : decode cX7_word 126 = .ok (.aload_n 0, 1) := by decide +kernel
theorem dX7_word_127 : decode cX7_word 127 = .ok (.getfield 41, 3) := by decide +kernel
theorem dX7_word_130 : decode cX7_word 130 = .ok (.iload 8, 2) := by decide +kernel
theorem dX7_word_132 : decode cX7_word 132 = .ok (.iconst 1, 1) := by decide +kernel
theorem dX7_word_133 : decode cX7_word 133 = .ok (.isub, 1) := by decide +kernel
theorem dX7_word_134 : decode cX7_word 134 = .ok (.iaload, 1) := by decide +kernel
theorem dX7_word_135 : decode cX7_word 135 = .ok (.aload_n 0, 1) := by decide +kernel
theorem dX7_word_136 : decode cX7_word 136 = .ok (.getfield 41, 3) := by decide +kernel
theorem dX7_word_139 : decode cX7_word 139 = .ok (.iload 8, 2) := by decide +kernel
theorem dX7_word_141 : decode cX7_word 141 = .ok (.iaload, 1) := by decide +kernel
theorem dX7_word_142 : decode cX7_word 142 = .ok (.invokevirtual 129, 3) := by decide +kernel
theorem dX7_word_145 : decode cX7_word 145 = .ok (.bipush 100, 2) := by decide +kernel
theorem dX7_word_147 : decode cX7_word 147 = .ok (.isub, 1) := by decide +kernel
theorem dX7_word_148 : decode cX7_word 148 = .ok (.goto 4, 3) := by decide +kernel
theorem dX7_word_151 : decode cX7_word 151 = .ok (.iconst 0, 1) := by decide +kernel
theorem dX7_word_152 : decode cX7_word 152 = .ok (.iadd, 1) := by decide +kernel
theorem dX7_word_153 : decode cX7_word 153 = .ok (.iadd, 1) := by decide +kernel
theorem dX7_word_154 : decode cX7_word 154 = .ok (.istore 7, 2) := by decide +kernel
theorem dX7_word_156 : decode cX7_word 156 = .ok (.iinc 8 1, 3) := by decide +kernel
theorem dX7_word_159 : decode cX7_word 159 = .ok (.goto (-62), 3) := by decide +kernel
theorem dX7_word_162 : decode cX7_word 162 = .ok (.iload 7, 2) := by decide +kernel
theorem dX7_word_164 : decode cX7_word 164 = .ok (.ireturn, 1) := by decide +kernel
theorem dX7_ones_0 : decode cX7_ones 0 = .ok (.iconst 0, 1) := by decide +kernel
theorem dX7_ones_1 : decode cX7_ones 1 = .ok (.istore_n 1, 1) := by decide +kernel
theorem dX7_ones_2 : decode cX7_ones 2 = .ok (.iconst 0, 1) := by decide +kernel
theorem dX7_ones_3 : decode cX7_ones 3 = .ok (.istore_n 2, 1) := by decide +kernel
theorem dX7_ones_4 : decode cX7_ones 4 = .ok (.iload_n 2, 1) := by decide +kernel
theorem dX7_ones_5 : decode cX7_ones 5 = .ok (.bipush 8, 2) := by decide +kernel
theorem dX7_ones_7 : decode cX7_ones 7 = .ok (.if_icmp .ge 17, 3) := by decide +kernel
theorem dX7_ones_10 : decode cX7_ones 10 = .ok (.iload_n 1, 1) := by decide +kernel
theorem dX7_ones_11 : decode cX7_ones 11 = .ok (.iload_n 0, 1) := by decide +kernel
theorem dX7_ones_12 : decode cX7_ones 12 = .ok (.iload_n 2, 1) := by decide +kernel
theorem dX7_ones_13 : decode cX7_ones 13 = .ok (.ishr, 1) := by decide +kernel
theorem dX7_ones_14 : decode cX7_ones 14 = .ok (.iconst 1, 1) := by decide +kernel
theorem dX7_ones_15 : decode cX7_ones 15 = .ok (.iand, 1) := by decide +kernel
theorem dX7_ones_16 : decode cX7_ones 16 = .ok (.iadd, 1) := by decide +kernel
theorem dX7_ones_17 : decode cX7_ones 17 = .ok (.istore_n 1, 1) := by decide +kernel
theorem dX7_ones_18 : decode cX7_ones 18 = .ok (.iinc 2 1, 3) := by decide +kernel
theorem dX7_ones_21 : decode cX7_ones 21 = .ok (.goto (-17), 3) := by decide +kernel
theorem dX7_ones_24 : decode cX7_ones 24 = .ok (.iload_n 1, 1) := by decide +kernel
theorem dX7_ones_25 : decode cX7_ones 25 = .ok (.ireturn, 1) := by decide +kernel
theorem dX7_setEdge_0 : decode cX7_setEdge 0 = .ok (.iload_n 3, 1) := by decide +kernel
theorem dX7_setEdge_1 : decode cX7_setEdge 1 = .ok (.istore 4, 2) := by decide +kernel
theorem dX7_setEdge_3 : decode cX7_setEdge 3 = .ok (.iconst 4, 1) := by decide +kernel
theorem dX7_setEdge_4 : decode cX7_setEdge 4 = .ok (.istore 5, 2) := by decide +kernel
theorem dX7_setEdge_6 : decode cX7_setEdge 6 = .ok (.iload 5, 2) := by decide +kernel
theorem dX7_setEdge_8 : decode cX7_setEdge 8 = .ok (.ifCond .lt 40, 3) := by decide +kernel
theorem dX7_setEdge_11 : decode cX7_setEdge 11 = .ok (.aload_n 0, 1) := by decide +kernel
theorem dX7_setEdge_12 : decode cX7_setEdge 12 = .ok (.getfield 7, 3) := by decide +kernel
theorem dX7_setEdge_15 : decode cX7_setEdge 15 = .ok (.bipush 6, 2) := by decide +kernel
theorem dX7_setEdge_17 : decode cX7_setEdge 17 = .ok (.bipush 40, 2) := by decide +kernel
theorem dX7_setEdge_19 : decode cX7_setEdge 19 = .ok (.iload_n 2, 1) := by decide +kernel
theorem dX7_setEdge_20 : decode cX7_setEdge 20 = .ok (.imul, 1) := by decide +kernel
theorem dX7_setEdge_21 : decode cX7_setEdge 21 = .ok (.iadd, 1) := by decide +kernel
theorem dX7_setEdge_22 : decode cX7_setEdge 22 = .ok (.iconst 5, 1) := by decide +kernel
theorem dX7_setEdge_23 : decode cX7_setEdge 23 = .ok (.iload_n 1, 1) := by decide +kernel
theorem dX7_setEdge_24 : decode cX7_setEdge 24 = .ok (.imul, 1) := by decide +kernel
theorem dX7_setEdge_25 : decode cX7_setEdge 25 = .ok (.iadd, 1) := by decide +kernel
theorem dX7_setEdge_26 : decode cX7_setEdge 26 = .ok (.iload 5, 2) := by decide +kernel
theorem dX7_setEdge_28 : decode cX7_setEdge 28 = .ok (.iadd, 1) := by decide +kernel
theorem dX7_setEdge_29 : decode cX7_setEdge 29 = .ok (.iload 4, 2) := by decide +kernel
theorem dX7_setEdge_31 : decode cX7_setEdge 31 = .ok (.bipush 10, 2) := by decide +kernel
theorem dX7_setEdge_33 : decode cX7_setEdge 33 = .ok (.irem, 1) := by decide +kernel
theorem dX7_setEdge_34 : decode cX7_setEdge 34 = .ok (.iastore, 1) := by decide +kernel
theorem dX7_setEdge_35 : decode cX7_setEdge 35 = .ok (.iload 4, 2) := by decide +kernel
theorem dX7_setEdge_37 : decode cX7_setEdge 37 = .ok (.bipush 10, 2) := by decide +kernel
theorem dX7_setEdge_39 : decode cX7_setEdge 39 = .ok (.idiv, 1) := by decide +kernel
theorem dX7_setEdge_40 : decode cX7_setEdge 40 = .ok (.istore 4, 2) := by decide +kernel
theorem dX7_setEdge_42 : decode cX7_setEdge 42 = .ok (.iinc 5 (-1), 3) := by decide +kernel
theorem dX7_setEdge_45 : decode cX7_setEdge 45 = .ok (.goto (-39), 3) := by decide +kernel
theorem dX7_setEdge_48 : decode cX7_setEdge 48 = .ok (.return_, 1) := by decide +kernel
theorem dX7_letter_0 : decode cX7_letter 0 = .ok (.iload_n 1, 1) := by decide +kernel
theorem dX7_letter_1 : decode cX7_letter 1 = .ok (.i2l, 1) := by decide +kernel
theorem dX7_letter_2 : decode cX7_letter 2 = .ok (.lconst 0, 1) := by decide +kernel
theorem dX7_letter_3 : decode cX7_letter 3 = .ok (.ldc2_w 51, 3) := by decide +kernel
theorem dX7_letter_6 : decode cX7_letter 6 = .ok (.invokestatic 53, 3) := by decide +kernel
theorem dX7_letter_9 : decode cX7_letter 9 = .ok (.ifCond .eq 40, 3) := by decide +kernel
theorem dX7_letter_12 : decode cX7_letter 12 = .ok (.iload_n 2, 1) := by decide +kernel
theorem dX7_letter_13 : decode cX7_letter 13 = .ok (.i2l, 1) := by decide +kernel
theorem dX7_letter_14 : decode cX7_letter 14 = .ok (.lconst 0, 1) := by decide +kernel
theorem dX7_letter_15 : decode cX7_letter 15 = .ok (.ldc2_w 268, 3) := by decide +kernel
theorem dX7_letter_18 : decode cX7_letter 18 = .ok (.invokestatic 53, 3) := by decide +kernel
theorem dX7_letter_21 : decode cX7_letter 21 = .ok (.ifCond .eq 28, 3) := by decide +kernel
theorem dX7_letter_24 : decode cX7_letter 24 = .ok (.iload_n 3, 1) := by decide +kernel
theorem dX7_letter_25 : decode cX7_letter 25 = .ok (.i2l, 1) := by decide +kernel
theorem dX7_letter_26 : decode cX7_letter 26 = .ok (.lconst 0, 1) := by decide +kernel
theorem dX7_letter_27 : decode cX7_letter 27 = .ok (.ldc2_w 268, 3) := by decide +kernel
theorem dX7_letter_30 : decode cX7_letter 30 = .ok (.invokestatic 53, 3) := by decide +kernel
theorem dX7_letter_33 : decode cX7_letter 33 = .ok (.ifCond .eq 16, 3) := by decide +kernel
theorem dX7_letter_36 : decode cX7_letter 36 = .ok (.iload 4, 2) := by decide +kernel
theorem dX7_letter_38 : decode cX7_letter 38 = .ok (.i2l, 1) := by decide +kernel
theorem dX7_letter_39 : decode cX7_letter 39 = .ok (.lconst 1, 1) := by decide +kernel
theorem dX7_letter_40 : decode cX7_letter 40 = .ok (.ldc2_w 159, 3) := by decide +kernel
theorem dX7_letter_43 : decode cX7_letter 43 = .ok (.invokestatic 53, 3) := by decide +kernel
theorem dX7_letter_46 : decode cX7_letter 46 = .ok (.ifCond .ne 6, 3) := by decide +kernel
theorem dX7_letter_49 : decode cX7_letter 49 = .ok (.ldc 210, 2) := by decide +kernel
theorem dX7_letter_51 : decode cX7_letter 51 = .ok (.ireturn, 1) := by decide +kernel
theorem dX7_letter_52 : decode cX7_letter 52 = .ok (.aload_n 0, 1) := by decide +kernel
theorem dX7_letter_53 : decode cX7_letter 53 = .ok (.invokevirtual 215, 3) := by decide +kernel
theorem dX7_letter_56 : decode cX7_letter 56 = .ok (.aload_n 0, 1) := by decide +kernel
theorem dX7_letter_57 : decode cX7_letter 57 = .ok (.iload_n 1, 1) := by decide +kernel
theorem dX7_letter_58 : decode cX7_letter 58 = .ok (.iconst 0, 1) := by decide +kernel
theorem dX7_letter_59 : decode cX7_letter 59 = .ok (.iload_n 2, 1) := by decide +kernel
theorem dX7_letter_60 : decode cX7_letter 60 = .ok (.invokevirtual 270, 3) := by decide +kernel
theorem dX7_letter_63 : decode cX7_letter 63 = .ok (.aload_n 0, 1) := by decide +kernel
theorem dX7_letter_64 : decode cX7_letter 64 = .ok (.iload_n 1, 1) := by decide +kernel
theorem dX7_letter_65 : decode cX7_letter 65 = .ok (.iconst 1, 1) := by decide +kernel
theorem dX7_letter_66 : decode cX7_letter 66 = .ok (.iload_n 3, 1) := by decide +kernel
theorem dX7_letter_67 : decode cX7_letter 67 = .ok (.invokevirtual 270, 3) := by decide +kernel
theorem dX7_letter_70 : decode cX7_letter 70 = .ok (.aload_n 0, 1) := by decide +kernel
theorem dX7_letter_71 : decode cX7_letter 71 = .ok (.getfield 7, 3) := by decide +kernel
theorem dX7_letter_74 : decode cX7_letter 74 = .ok (.bipush 86, 2) := by decide +kernel
theorem dX7_letter_76 : decode cX7_letter 76 = .ok (.iload_n 1, 1) := by decide +kernel
theorem dX7_letter_77 : decode cX7_letter 77 = .ok (.iadd, 1) := by decide +kernel
theorem dX7_letter_78 : decode cX7_letter 78 = .ok (.iload 4, 2) := by decide +kernel
theorem dX7_letter_80 : decode cX7_letter 80 = .ok (.iastore, 1) := by decide +kernel
theorem dX7_letter_81 : decode cX7_letter 81 = .ok (.aload_n 0, 1) := by decide +kernel
theorem dX7_letter_82 : decode cX7_letter 82 = .ok (.getfield 7, 3) := by decide +kernel
theorem dX7_letter_85 : decode cX7_letter 85 = .ok (.iconst 0, 1) := by decide +kernel
theorem dX7_letter_86 : decode cX7_letter 86 = .ok (.dup2, 1) := by decide +kernel
theorem dX7_letter_87 : decode cX7_letter 87 = .ok (.iaload, 1) := by decide +kernel
theorem dX7_letter_88 : decode cX7_letter 88 = .ok (.iconst 1, 1) := by decide +kernel
theorem dX7_letter_89 : decode cX7_letter 89 = .ok (.iload_n 1, 1) := by decide +kernel
theorem dX7_letter_90 : decode cX7_letter 90 = .ok (.ishl, 1) := by decide +kernel
theorem dX7_letter_91 : decode cX7_letter 91 = .ok (.ior, 1) := by decide +kernel
theorem dX7_letter_92 : decode cX7_letter 92 = .ok (.iastore, 1) := by decide +kernel
theorem dX7_letter_93 : decode cX7_letter 93 = .ok (.aload_n 0, 1) := by decide +kernel
theorem dX7_letter_94 : decode cX7_letter 94 = .ok (.getfield 7, 3) := by decide +kernel
theorem dX7_letter_97 : decode cX7_letter 97 = .ok (.iconst 0, 1) := by decide +kernel
theorem dX7_letter_98 : decode cX7_letter 98 = .ok (.iaload, 1) := by decide +kernel
theorem dX7_letter_99 : decode cX7_letter 99 = .ok (.invokestatic 273, 3) := by decide +kernel
theorem dX7_letter_102 : decode cX7_letter 102 = .ok (.ireturn, 1) := by decide +kernel
theorem dX7_forget_0 : decode cX7_forget 0 = .ok (.aload_n 0, 1) := by decide +kernel
theorem dX7_forget_1 : decode cX7_forget 1 = .ok (.iload_n 1, 1) := by decide +kernel
theorem dX7_forget_2 : decode cX7_forget 2 = .ok (.invokevirtual 69, 3) := by decide +kernel
theorem dX7_forget_5 : decode cX7_forget 5 = .ok (.ifCond .ne 6, 3) := by decide +kernel
theorem dX7_forget_8 : decode cX7_forget 8 = .ok (.ldc 239, 2) := by decide +kernel
theorem dX7_forget_10 : decode cX7_forget 10 = .ok (.ireturn, 1) := by decide +kernel
theorem dX7_forget_11 : decode cX7_forget 11 = .ok (.aload_n 0, 1) := by decide +kernel
theorem dX7_forget_12 : decode cX7_forget 12 = .ok (.invokevirtual 215, 3) := by decide +kernel
theorem dX7_forget_15 : decode cX7_forget 15 = .ok (.aload_n 0, 1) := by decide +kernel
theorem dX7_forget_16 : decode cX7_forget 16 = .ok (.getfield 7, 3) := by decide +kernel
theorem dX7_forget_19 : decode cX7_forget 19 = .ok (.iconst 0, 1) := by decide +kernel
theorem dX7_forget_20 : decode cX7_forget 20 = .ok (.dup2, 1) := by decide +kernel
theorem dX7_forget_21 : decode cX7_forget 21 = .ok (.iaload, 1) := by decide +kernel
theorem dX7_forget_22 : decode cX7_forget 22 = .ok (.iconst 1, 1) := by decide +kernel
theorem dX7_forget_23 : decode cX7_forget 23 = .ok (.iload_n 1, 1) := by decide +kernel
theorem dX7_forget_24 : decode cX7_forget 24 = .ok (.ishl, 1) := by decide +kernel
theorem dX7_forget_25 : decode cX7_forget 25 = .ok (.iconst (-1), 1) := by decide +kernel
theorem dX7_forget_26 : decode cX7_forget 26 = .ok (.ixor, 1) := by decide +kernel
theorem dX7_forget_27 : decode cX7_forget 27 = .ok (.iand, 1) := by decide +kernel
theorem dX7_forget_28 : decode cX7_forget 28 = .ok (.iastore, 1) := by decide +kernel
theorem dX7_forget_29 : decode cX7_forget 29 = .ok (.iconst 0, 1) := by decide +kernel
theorem dX7_forget_30 : decode cX7_forget 30 = .ok (.istore_n 2, 1) := by decide +kernel
theorem dX7_forget_31 : decode cX7_forget 31 = .ok (.iload_n 2, 1) := by decide +kernel
theorem dX7_forget_32 : decode cX7_forget 32 = .ok (.bipush 8, 2) := by decide +kernel
theorem dX7_forget_34 : decode cX7_forget 34 = .ok (.if_icmp .ge 39, 3) := by decide +kernel
theorem dX7_forget_37 : decode cX7_forget 37 = .ok (.aload_n 0, 1) := by decide +kernel
theorem dX7_forget_38 : decode cX7_forget 38 = .ok (.getfield 7, 3) := by decide +kernel
theorem dX7_forget_41 : decode cX7_forget 41 = .ok (.bipush 94, 2) := by decide +kernel
theorem dX7_forget_43 : decode cX7_forget 43 = .ok (.bipush 8, 2) := by decide +kernel
theorem dX7_forget_45 : decode cX7_forget 45 = .ok (.iload_n 1, 1) := by decide +kernel
theorem dX7_forget_46 : decode cX7_forget 46 = .ok (.imul, 1) := by decide +kernel
theorem dX7_forget_47 : decode cX7_forget 47 = .ok (.iadd, 1) := by decide +kernel
theorem dX7_forget_48 : decode cX7_forget 48 = .ok (.iload_n 2, 1) := by decide +kernel
theorem dX7_forget_49 : decode cX7_forget 49 = .ok (.iadd, 1) := by decide +kernel
theorem dX7_forget_50 : decode cX7_forget 50 = .ok (.iconst 0, 1) := by decide +kernel
theorem dX7_forget_51 : decode cX7_forget 51 = .ok (.iastore, 1) := by decide +kernel
theorem dX7_forget_52 : decode cX7_forget 52 = .ok (.aload_n 0, 1) := by decide +kernel
theorem dX7_forget_53 : decode cX7_forget 53 = .ok (.getfield 7, 3) := by decide +kernel
theorem dX7_forget_56 : decode cX7_forget 56 = .ok (.bipush 94, 2) := by decide +kernel
theorem dX7_forget_58 : decode cX7_forget 58 = .ok (.bipush 8, 2) := by decide +kernel
theorem dX7_forget_60 : decode cX7_forget 60 = .ok (.iload_n 2, 1) := by decide +kernel
theorem dX7_forget_61 : decode cX7_forget 61 = .ok (.imul, 1) := by decide +kernel
theorem dX7_forget_62 : decode cX7_forget 62 = .ok (.iadd, 1) := by decide +kernel
theorem dX7_forget_63 : decode cX7_forget 63 = .ok (.iload_n 1, 1) := by decide +kernel
theorem dX7_forget_64 : decode cX7_forget 64 = .ok (.iadd, 1) := by decide +kernel
theorem dX7_forget_65 : decode cX7_forget 65 = .ok (.iconst 0, 1) := by decide +kernel
theorem dX7_forget_66 : decode cX7_forget 66 = .ok (.iastore, 1) := by decide +kernel
theorem dX7_forget_67 : decode cX7_forget 67 = .ok (.iinc 2 1, 3) := by decide +kernel
theorem dX7_forget_70 : decode cX7_forget 70 = .ok (.goto (-39), 3) := by decide +kernel
theorem dX7_forget_73 : decode cX7_forget 73 = .ok (.aload_n 0, 1) := by decide +kernel
theorem dX7_forget_74 : decode cX7_forget 74 = .ok (.getfield 7, 3) := by decide +kernel
theorem dX7_forget_77 : decode cX7_forget 77 = .ok (.iconst 0, 1) := by decide +kernel
theorem dX7_forget_78 : decode cX7_forget 78 = .ok (.iaload, 1) := by decide +kernel
theorem dX7_forget_79 : decode cX7_forget 79 = .ok (.invokestatic 273, 3) := by decide +kernel
theorem dX7_forget_82 : decode cX7_forget 82 = .ok (.ireturn, 1) := by decide +kernel
theorem dX7_judge_0 : decode cX7_judge 0 = .ok (.aload_n 0, 1) := by decide +kernel
theorem dX7_judge_1 : decode cX7_judge 1 = .ok (.iload_n 1, 1) := by decide +kernel
theorem dX7_judge_2 : decode cX7_judge 2 = .ok (.invokevirtual 69, 3) := by decide +kernel
theorem dX7_judge_5 : decode cX7_judge 5 = .ok (.ifCond .eq 11, 3) := by decide +kernel
theorem dX7_judge_8 : decode cX7_judge 8 = .ok (.aload_n 0, 1) := by decide +kernel
theorem dX7_judge_9 : decode cX7_judge 9 = .ok (.iload_n 2, 1) := by decide +kernel
theorem dX7_judge_10 : decode cX7_judge 10 = .ok (.invokevirtual 69, 3) := by decide +kernel
theorem dX7_judge_13 : decode cX7_judge 13 = .ok (.ifCond .ne 6, 3) := by decide +kernel
theorem dX7_judge_16 : decode cX7_judge 16 = .ok (.ldc 239, 2) := by decide +kernel
theorem dX7_judge_18 : decode cX7_judge 18 = .ok (.ireturn, 1) := by decide +kernel
theorem dX7_judge_19 : decode cX7_judge 19 = .ok (.iload_n 3, 1) := by decide +kernel
theorem dX7_judge_20 : decode cX7_judge 20 = .ok (.i2l, 1) := by decide +kernel
theorem dX7_judge_21 : decode cX7_judge 21 = .ok (.ldc2_w 276, 3) := by decide +kernel
theorem dX7_judge_24 : decode cX7_judge 24 = .ok (.ldc2_w 278, 3) := by decide +kernel
theorem dX7_judge_27 : decode cX7_judge 27 = .ok (.invokestatic 53, 3) := by decide +kernel
theorem dX7_judge_30 : decode cX7_judge 30 = .ok (.ifCond .ne 6, 3) := by decide +kernel
theorem dX7_judge_33 : decode cX7_judge 33 = .ok (.ldc 210, 2) := by decide +kernel
theorem dX7_judge_35 : decode cX7_judge 35 = .ok (.ireturn, 1) := by decide +kernel
theorem dX7_judge_36 : decode cX7_judge 36 = .ok (.aload_n 0, 1) := by decide +kernel
theorem dX7_judge_37 : decode cX7_judge 37 = .ok (.invokevirtual 215, 3) := by decide +kernel
theorem dX7_judge_40 : decode cX7_judge 40 = .ok (.aload_n 0, 1) := by decide +kernel
theorem dX7_judge_41 : decode cX7_judge 41 = .ok (.getfield 7, 3) := by decide +kernel
theorem dX7_judge_44 : decode cX7_judge 44 = .ok (.bipush 94, 2) := by decide +kernel
theorem dX7_judge_46 : decode cX7_judge 46 = .ok (.bipush 8, 2) := by decide +kernel
theorem dX7_judge_48 : decode cX7_judge 48 = .ok (.iload_n 1, 1) := by decide +kernel
theorem dX7_judge_49 : decode cX7_judge 49 = .ok (.imul, 1) := by decide +kernel
theorem dX7_judge_50 : decode cX7_judge 50 = .ok (.iadd, 1) := by decide +kernel
theorem dX7_judge_51 : decode cX7_judge 51 = .ok (.iload_n 2, 1) := by decide +kernel
theorem dX7_judge_52 : decode cX7_judge 52 = .ok (.iadd, 1) := by decide +kernel
theorem dX7_judge_53 : decode cX7_judge 53 = .ok (.iload_n 3, 1) := by decide +kernel
theorem dX7_judge_54 : decode cX7_judge 54 = .ok (.bipush 100, 2) := by decide +kernel
theorem dX7_judge_56 : decode cX7_judge 56 = .ok (.iadd, 1) := by decide +kernel
theorem dX7_judge_57 : decode cX7_judge 57 = .ok (.iastore, 1) := by decide +kernel
theorem dX7_judge_58 : decode cX7_judge 58 = .ok (.aload_n 0, 1) := by decide +kernel
theorem dX7_judge_59 : decode cX7_judge 59 = .ok (.invokevirtual 233, 3) := by decide +kernel
theorem dX7_judge_62 : decode cX7_judge 62 = .ok (.aload_n 0, 1) := by decide +kernel
theorem dX7_judge_63 : decode cX7_judge 63 = .ok (.iload_n 1, 1) := by decide +kernel
theorem dX7_judge_64 : decode cX7_judge 64 = .ok (.iload_n 2, 1) := by decide +kernel
theorem dX7_judge_65 : decode cX7_judge 65 = .ok (.invokevirtual 129, 3) := by decide +kernel
theorem dX7_judge_68 : decode cX7_judge 68 = .ok (.ireturn, 1) := by decide +kernel
theorem dX7_withdraw_0 : decode cX7_withdraw 0 = .ok (.aload_n 0, 1) := by decide +kernel
theorem dX7_withdraw_1 : decode cX7_withdraw 1 = .ok (.iload_n 1, 1) := by decide +kernel
theorem dX7_withdraw_2 : decode cX7_withdraw 2 = .ok (.invokevirtual 69, 3) := by decide +kernel
theorem dX7_withdraw_5 : decode cX7_withdraw 5 = .ok (.ifCond .eq 11, 3) := by decide +kernel
theorem dX7_withdraw_8 : decode cX7_withdraw 8 = .ok (.aload_n 0, 1) := by decide +kernel
theorem dX7_withdraw_9 : decode cX7_withdraw 9 = .ok (.iload_n 2, 1) := by decide +kernel
theorem dX7_withdraw_10 : decode cX7_withdraw 10 = .ok (.invokevirtual 69, 3) := by decide +kernel
theorem dX7_withdraw_13 : decode cX7_withdraw 13 = .ok (.ifCond .ne 6, 3) := by decide +kernel
theorem dX7_withdraw_16 : decode cX7_withdraw 16 = .ok (.ldc 239, 2) := by decide +kernel
theorem dX7_withdraw_18 : decode cX7_withdraw 18 = .ok (.ireturn, 1) := by decide +kernel
theorem dX7_withdraw_19 : decode cX7_withdraw 19 = .ok (.aload_n 0, 1) := by decide +kernel
theorem dX7_withdraw_20 : decode cX7_withdraw 20 = .ok (.iload_n 1, 1) := by decide +kernel
theorem dX7_withdraw_21 : decode cX7_withdraw 21 = .ok (.iload_n 2, 1) := by decide +kernel
theorem dX7_withdraw_22 : decode cX7_withdraw 22 = .ok (.invokevirtual 105, 3) := by decide +kernel
theorem dX7_withdraw_25 : decode cX7_withdraw 25 = .ok (.istore_n 3, 1) := by decide +kernel
theorem dX7_withdraw_26 : decode cX7_withdraw 26 = .ok (.iload_n 3, 1) := by decide +kernel
theorem dX7_withdraw_27 : decode cX7_withdraw 27 = .ok (.ifCond .ne 7, 3) := by decide +kernel
theorem dX7_withdraw_30 : decode cX7_withdraw 30 = .ok (.ldc_w 280, 3) := by decide +kernel
theorem dX7_withdraw_33 : decode cX7_withdraw 33 = .ok (.ireturn, 1) := by decide +kernel
theorem dX7_withdraw_34 : decode cX7_withdraw 34 = .ok (.aload_n 0, 1) := by decide +kernel
theorem dX7_withdraw_35 : decode cX7_withdraw 35 = .ok (.invokevirtual 215, 3) := by decide +kernel
theorem dX7_withdraw_38 : decode cX7_withdraw 38 = .ok (.aload_n 0, 1) := by decide +kernel
theorem dX7_withdraw_39 : decode cX7_withdraw 39 = .ok (.getfield 7, 3) := by decide +kernel
theorem dX7_withdraw_42 : decode cX7_withdraw 42 = .ok (.bipush 94, 2) := by decide +kernel
theorem dX7_withdraw_44 : decode cX7_withdraw 44 = .ok (.bipush 8, 2) := by decide +kernel
theorem dX7_withdraw_46 : decode cX7_withdraw 46 = .ok (.iload_n 1, 1) := by decide +kernel
theorem dX7_withdraw_47 : decode cX7_withdraw 47 = .ok (.imul, 1) := by decide +kernel
theorem dX7_withdraw_48 : decode cX7_withdraw 48 = .ok (.iadd, 1) := by decide +kernel
theorem dX7_withdraw_49 : decode cX7_withdraw 49 = .ok (.iload_n 2, 1) := by decide +kernel
theorem dX7_withdraw_50 : decode cX7_withdraw 50 = .ok (.iadd, 1) := by decide +kernel
theorem dX7_withdraw_51 : decode cX7_withdraw 51 = .ok (.iconst 0, 1) := by decide +kernel
theorem dX7_withdraw_52 : decode cX7_withdraw 52 = .ok (.iastore, 1) := by decide +kernel
theorem dX7_withdraw_53 : decode cX7_withdraw 53 = .ok (.iload_n 3, 1) := by decide +kernel
theorem dX7_withdraw_54 : decode cX7_withdraw 54 = .ok (.ireturn, 1) := by decide +kernel
theorem dX7_mostOf_0 : decode cX7_mostOf 0 = .ok (.iload_n 0, 1) := by decide +kernel
theorem dX7_mostOf_1 : decode cX7_mostOf 1 = .ok (.iconst 1, 1) := by decide +kernel
theorem dX7_mostOf_2 : decode cX7_mostOf 2 = .ok (.if_icmp .eq 8, 3) := by decide +kernel
theorem dX7_mostOf_5 : decode cX7_mostOf 5 = .ok (.iload_n 0, 1) := by decide +kernel
theorem dX7_mostOf_6 : decode cX7_mostOf 6 = .ok (.iconst 2, 1) := by decide +kernel
theorem dX7_mostOf_7 : decode cX7_mostOf 7 = .ok (.if_icmp .ne 8, 3) := by decide +kernel
theorem dX7_mostOf_10 : decode cX7_mostOf 10 = .ok (.bipush 20, 2) := by decide +kernel
theorem dX7_mostOf_12 : decode cX7_mostOf 12 = .ok (.goto 14, 3) := by decide +kernel
theorem dX7_mostOf_15 : decode cX7_mostOf 15 = .ok (.iload_n 0, 1) := by decide +kernel
theorem dX7_mostOf_16 : decode cX7_mostOf 16 = .ok (.iconst 4, 1) := by decide +kernel
theorem dX7_mostOf_17 : decode cX7_mostOf 17 = .ok (.if_icmp .ne 7, 3) := by decide +kernel
theorem dX7_mostOf_20 : decode cX7_mostOf 20 = .ok (.iconst 2, 1) := by decide +kernel
theorem dX7_mostOf_21 : decode cX7_mostOf 21 = .ok (.goto 5, 3) := by decide +kernel
theorem dX7_mostOf_24 : decode cX7_mostOf 24 = .ok (.bipush 99, 2) := by decide +kernel
theorem dX7_mostOf_26 : decode cX7_mostOf 26 = .ok (.ireturn, 1) := by decide +kernel
theorem dX7_term_0 : decode cX7_term 0 = .ok (.iload_n 1, 1) := by decide +kernel
theorem dX7_term_1 : decode cX7_term 1 = .ok (.i2l, 1) := by decide +kernel
theorem dX7_term_2 : decode cX7_term 2 = .ok (.lconst 0, 1) := by decide +kernel
theorem dX7_term_3 : decode cX7_term 3 = .ok (.ldc2_w 261, 3) := by decide +kernel
theorem dX7_term_6 : decode cX7_term 6 = .ok (.invokestatic 53, 3) := by decide +kernel
theorem dX7_term_9 : decode cX7_term 9 = .ok (.ifCond .eq 26, 3) := by decide +kernel
theorem dX7_term_12 : decode cX7_term 12 = .ok (.iload_n 2, 1) := by decide +kernel
theorem dX7_term_13 : decode cX7_term 13 = .ok (.i2l, 1) := by decide +kernel
theorem dX7_term_14 : decode cX7_term 14 = .ok (.iload_n 1, 1) := by decide +kernel
theorem dX7_term_15 : decode cX7_term 15 = .ok (.iconst 2, 1) := by decide +kernel
theorem dX7_term_16 : decode cX7_term 16 = .ok (.if_icmp .ne 7, 3) := by decide +kernel
theorem dX7_term_19 : decode cX7_term 19 = .ok (.lconst 1, 1) := by decide +kernel
theorem dX7_term_20 : decode cX7_term 20 = .ok (.goto 4, 3) := by decide +kernel
theorem dX7_term_23 : decode cX7_term 23 = .ok (.lconst 0, 1) := by decide +kernel
theorem dX7_term_24 : decode cX7_term 24 = .ok (.iload_n 1, 1) := by decide +kernel
theorem dX7_term_25 : decode cX7_term 25 = .ok (.invokestatic 281, 3) := by decide +kernel
theorem dX7_term_28 : decode cX7_term 28 = .ok (.i2l, 1) := by decide +kernel
theorem dX7_term_29 : decode cX7_term 29 = .ok (.invokestatic 53, 3) := by decide +kernel
theorem dX7_term_32 : decode cX7_term 32 = .ok (.ifCond .ne 6, 3) := by decide +kernel
theorem dX7_term_35 : decode cX7_term 35 = .ok (.ldc 210, 2) := by decide +kernel
theorem dX7_term_37 : decode cX7_term 37 = .ok (.ireturn, 1) := by decide +kernel
theorem dX7_term_38 : decode cX7_term 38 = .ok (.aload_n 0, 1) := by decide +kernel
theorem dX7_term_39 : decode cX7_term 39 = .ok (.invokevirtual 215, 3) := by decide +kernel
theorem dX7_term_42 : decode cX7_term 42 = .ok (.aload_n 0, 1) := by decide +kernel
theorem dX7_term_43 : decode cX7_term 43 = .ok (.iload_n 1, 1) := by decide +kernel
theorem dX7_term_44 : decode cX7_term 44 = .ok (.invokevirtual 65, 3) := by decide +kernel
theorem dX7_term_47 : decode cX7_term 47 = .ok (.istore_n 3, 1) := by decide +kernel
theorem dX7_term_48 : decode cX7_term 48 = .ok (.aload_n 0, 1) := by decide +kernel
theorem dX7_term_49 : decode cX7_term 49 = .ok (.getfield 7, 3) := by decide +kernel
theorem dX7_term_52 : decode cX7_term 52 = .ok (.iconst 1, 1) := by decide +kernel
theorem dX7_term_53 : decode cX7_term 53 = .ok (.iload_n 1, 1) := by decide +kernel
theorem dX7_term_54 : decode cX7_term 54 = .ok (.iadd, 1) := by decide +kernel
theorem dX7_term_55 : decode cX7_term 55 = .ok (.iload_n 2, 1) := by decide +kernel
theorem dX7_term_56 : decode cX7_term 56 = .ok (.iastore, 1) := by decide +kernel
theorem dX7_term_57 : decode cX7_term 57 = .ok (.iload_n 3, 1) := by decide +kernel
theorem dX7_term_58 : decode cX7_term 58 = .ok (.ireturn, 1) := by decide +kernel
theorem dX7_draw_0 : decode cX7_draw 0 = .ok (.aload_n 0, 1) := by decide +kernel
theorem dX7_draw_1 : decode cX7_draw 1 = .ok (.aload_n 0, 1) := by decide +kernel
theorem dX7_draw_2 : decode cX7_draw 2 = .ok (.getfield 246, 3) := by decide +kernel
theorem dX7_draw_5 : decode cX7_draw 5 = .ok (.i2l, 1) := by decide +kernel
theorem dX7_draw_6 : decode cX7_draw 6 = .ok (.ldc2_w 284, 3) := by decide +kernel
theorem dX7_draw_9 : decode cX7_draw 9 = .ok (.lmul, 1) := by decide +kernel
theorem dX7_draw_10 : decode cX7_draw 10 = .ok (.ldc2_w 286, 3) := by decide +kernel
theorem dX7_draw_13 : decode cX7_draw 13 = .ok (.ladd, 1) := by decide +kernel
theorem dX7_draw_14 : decode cX7_draw 14 = .ok (.ldc2_w 288, 3) := by decide +kernel
theorem dX7_draw_17 : decode cX7_draw 17 = .ok (.lrem, 1) := by decide +kernel
theorem dX7_draw_18 : decode cX7_draw 18 = .ok (.l2i, 1) := by decide +kernel
theorem dX7_draw_19 : decode cX7_draw 19 = .ok (.putfield 246, 3) := by decide +kernel
theorem dX7_draw_22 : decode cX7_draw 22 = .ok (.aload_n 0, 1) := by decide +kernel
theorem dX7_draw_23 : decode cX7_draw 23 = .ok (.getfield 246, 3) := by decide +kernel
theorem dX7_draw_26 : decode cX7_draw 26 = .ok (.ldc_w 290, 3) := by decide +kernel
theorem dX7_draw_29 : decode cX7_draw 29 = .ok (.idiv, 1) := by decide +kernel
theorem dX7_draw_30 : decode cX7_draw 30 = .ok (.iload_n 1, 1) := by decide +kernel
theorem dX7_draw_31 : decode cX7_draw 31 = .ok (.irem, 1) := by decide +kernel
theorem dX7_draw_32 : decode cX7_draw 32 = .ok (.ireturn, 1) := by decide +kernel
theorem dX7_chance_0 : decode cX7_chance 0 = .ok (.aload_n 0, 1) := by decide +kernel
theorem dX7_chance_1 : decode cX7_chance 1 = .ok (.invokevirtual 215, 3) := by decide +kernel
theorem dX7_chance_4 : decode cX7_chance 4 = .ok (.aload_n 0, 1) := by decide +kernel
theorem dX7_chance_5 : decode cX7_chance 5 = .ok (.bipush 8, 2) := by decide +kernel
theorem dX7_chance_7 : decode cX7_chance 7 = .ok (.invokevirtual 291, 3) := by decide +kernel
theorem dX7_chance_10 : decode cX7_chance 10 = .ok (.istore_n 1, 1) := by decide +kernel
theorem dX7_chance_11 : decode cX7_chance 11 = .ok (.aload_n 0, 1) := by decide +kernel
theorem dX7_chance_12 : decode cX7_chance 12 = .ok (.iload_n 1, 1) := by decide +kernel
theorem dX7_chance_13 : decode cX7_chance 13 = .ok (.invokevirtual 69, 3) := by decide +kernel
theorem dX7_chance_16 : decode cX7_chance 16 = .ok (.ifCond .ne 76, 3) := by decide +kernel
theorem dX7_chance_19 : decode cX7_chance 19 = .ok (.iconst 0, 1) := by decide +kernel
theorem dX7_chance_20 : decode cX7_chance 20 = .ok (.istore_n 2, 1) := by decide +kernel
theorem dX7_chance_21 : decode cX7_chance 21 = .ok (.iload_n 2, 1) := by decide +kernel
theorem dX7_chance_22 : decode cX7_chance 22 = .ok (.bipush 10, 2) := by decide +kernel
theorem dX7_chance_24 : decode cX7_chance 24 = .ok (.if_icmp .ge 36, 3) := by decide +kernel
theorem dX7_chance_27 : decode cX7_chance 27 = .ok (.aload_n 0, 1) := by decide +kernel
theorem dX7_chance_28 : decode cX7_chance 28 = .ok (.getfield 7, 3) := by decide +kernel
theorem dX7_chance_31 : decode cX7_chance 31 = .ok (.bipush 6, 2) := by decide +kernel
theorem dX7_chance_33 : decode cX7_chance 33 = .ok (.bipush 40, 2) := by decide +kernel
theorem dX7_chance_35 : decode cX7_chance 35 = .ok (.iload_n 2, 1) := by decide +kernel
theorem dX7_chance_36 : decode cX7_chance 36 = .ok (.iconst 5, 1) := by decide +kernel
theorem dX7_chance_37 : decode cX7_chance 37 = .ok (.idiv, 1) := by decide +kernel
theorem dX7_chance_38 : decode cX7_chance 38 = .ok (.imul, 1) := by decide +kernel
theorem dX7_chance_39 : decode cX7_chance 39 = .ok (.iadd, 1) := by decide +kernel
theorem dX7_chance_40 : decode cX7_chance 40 = .ok (.iconst 5, 1) := by decide +kernel
theorem dX7_chance_41 : decode cX7_chance 41 = .ok (.iload_n 1, 1) := by decide +kernel
theorem dX7_chance_42 : decode cX7_chance 42 = .ok (.imul, 1) := by decide +kernel
theorem dX7_chance_43 : decode cX7_chance 43 = .ok (.iadd, 1) := by decide +kernel
theorem dX7_chance_44 : decode cX7_chance 44 = .ok (.iload_n 2, 1) := by decide +kernel
theorem dX7_chance_45 : decode cX7_chance 45 = .ok (.iconst 5, 1) := by decide +kernel
theorem dX7_chance_46 : decode cX7_chance 46 = .ok (.irem, 1) := by decide +kernel
theorem dX7_chance_47 : decode cX7_chance 47 = .ok (.iadd, 1) := by decide +kernel
theorem dX7_chance_48 : decode cX7_chance 48 = .ok (.aload_n 0, 1) := by decide +kernel
theorem dX7_chance_49 : decode cX7_chance 49 = .ok (.iconst 5, 1) := by decide +kernel
theorem dX7_chance_50 : decode cX7_chance 50 = .ok (.invokevirtual 291, 3) := by decide +kernel
theorem dX7_chance_53 : decode cX7_chance 53 = .ok (.iastore, 1) := by decide +kernel
theorem dX7_chance_54 : decode cX7_chance 54 = .ok (.iinc 2 1, 3) := by decide +kernel
theorem dX7_chance_57 : decode cX7_chance 57 = .ok (.goto (-36), 3) := by decide +kernel
theorem dX7_chance_60 : decode cX7_chance 60 = .ok (.aload_n 0, 1) := by decide +kernel
theorem dX7_chance_61 : decode cX7_chance 61 = .ok (.getfield 7, 3) := by decide +kernel
theorem dX7_chance_64 : decode cX7_chance 64 = .ok (.bipush 86, 2) := by decide +kernel
theorem dX7_chance_66 : decode cX7_chance 66 = .ok (.iload_n 1, 1) := by decide +kernel
theorem dX7_chance_67 : decode cX7_chance 67 = .ok (.iadd, 1) := by decide +kernel
theorem dX7_chance_68 : decode cX7_chance 68 = .ok (.aload_n 0, 1) := by decide +kernel
theorem dX7_chance_69 : decode cX7_chance 69 = .ok (.bipush 9, 2) := by decide +kernel
theorem dX7_chance_71 : decode cX7_chance 71 = .ok (.invokevirtual 291, 3) := by decide +kernel
theorem dX7_chance_74 : decode cX7_chance 74 = .ok (.iconst 1, 1) := by decide +kernel
theorem dX7_chance_75 : decode cX7_chance 75 = .ok (.iadd, 1) := by decide +kernel
theorem dX7_chance_76 : decode cX7_chance 76 = .ok (.iastore, 1) := by decide +kernel
theorem dX7_chance_77 : decode cX7_chance 77 = .ok (.aload_n 0, 1) := by decide +kernel
theorem dX7_chance_78 : decode cX7_chance 78 = .ok (.getfield 7, 3) := by decide +kernel
theorem dX7_chance_81 : decode cX7_chance 81 = .ok (.iconst 0, 1) := by decide +kernel
theorem dX7_chance_82 : decode cX7_chance 82 = .ok (.dup2, 1) := by decide +kernel
theorem dX7_chance_83 : decode cX7_chance 83 = .ok (.iaload, 1) := by decide +kernel
theorem dX7_chance_84 : decode cX7_chance 84 = .ok (.iconst 1, 1) := by decide +kernel
theorem dX7_chance_85 : decode cX7_chance 85 = .ok (.iload_n 1, 1) := by decide +kernel
theorem dX7_chance_86 : decode cX7_chance 86 = .ok (.ishl, 1) := by decide +kernel
theorem dX7_chance_87 : decode cX7_chance 87 = .ok (.ior, 1) := by decide +kernel
theorem dX7_chance_88 : decode cX7_chance 88 = .ok (.iastore, 1) := by decide +kernel
theorem dX7_chance_89 : decode cX7_chance 89 = .ok (.goto 62, 3) := by decide +kernel
theorem dX7_chance_92 : decode cX7_chance 92 = .ok (.aload_n 0, 1) := by decide +kernel
theorem dX7_chance_93 : decode cX7_chance 93 = .ok (.bipush 8, 2) := by decide +kernel
theorem dX7_chance_95 : decode cX7_chance 95 = .ok (.invokevirtual 291, 3) := by decide +kernel
theorem dX7_chance_98 : decode cX7_chance 98 = .ok (.istore_n 2, 1) := by decide +kernel
theorem dX7_chance_99 : decode cX7_chance 99 = .ok (.aload_n 0, 1) := by decide +kernel
theorem dX7_chance_100 : decode cX7_chance 100 = .ok (.bipush 9, 2) := by decide +kernel
theorem dX7_chance_102 : decode cX7_chance 102 = .ok (.invokevirtual 291, 3) := by decide +kernel
theorem dX7_chance_105 : decode cX7_chance 105 = .ok (.iconst 4, 1) := by decide +kernel
theorem dX7_chance_106 : decode cX7_chance 106 = .ok (.isub, 1) := by decide +kernel
theorem dX7_chance_107 : decode cX7_chance 107 = .ok (.istore_n 3, 1) := by decide +kernel
theorem dX7_chance_108 : decode cX7_chance 108 = .ok (.aload_n 0, 1) := by decide +kernel
theorem dX7_chance_109 : decode cX7_chance 109 = .ok (.getfield 7, 3) := by decide +kernel
theorem dX7_chance_112 : decode cX7_chance 112 = .ok (.bipush 94, 2) := by decide +kernel
theorem dX7_chance_114 : decode cX7_chance 114 = .ok (.bipush 8, 2) := by decide +kernel
theorem dX7_chance_116 : decode cX7_chance 116 = .ok (.iload_n 1, 1) := by decide +kernel
theorem dX7_chance_117 : decode cX7_chance 117 = .ok (.imul, 1) := by decide +kernel
theorem dX7_chance_118 : decode cX7_chance 118 = .ok (.iadd, 1) := by decide +kernel
theorem dX7_chance_119 : decode cX7_chance 119 = .ok (.iload_n 2, 1) := by decide +kernel
theorem dX7_chance_120 : decode cX7_chance 120 = .ok (.iadd, 1) := by decide +kernel
theorem dX7_chance_121 : decode cX7_chance 121 = .ok (.aload_n 0, 1) := by decide +kernel
theorem dX7_chance_122 : decode cX7_chance 122 = .ok (.iload_n 2, 1) := by decide +kernel
theorem dX7_chance_123 : decode cX7_chance 123 = .ok (.invokevirtual 69, 3) := by decide +kernel
theorem dX7_chance_126 : decode cX7_chance 126 = .ok (.ifCond .eq 10, 3) := by decide +kernel
theorem dX7_chance_129 : decode cX7_chance 129 = .ok (.iload_n 3, 1) := by decide +kernel
theorem dX7_chance_130 : decode cX7_chance 130 = .ok (.bipush 100, 2) := by decide +kernel
theorem dX7_chance_132 : decode cX7_chance 132 = .ok (.iadd, 1) := by decide +kernel
theorem dX7_chance_133 : decode cX7_chance 133 = .ok (.goto 17, 3) := by decide +kernel
theorem dX7_chance_136 : decode cX7_chance 136 = .ok (.aload_n 0, 1) := by decide +kernel
theorem dX7_chance_137 : decode cX7_chance 137 = .ok (.getfield 7, 3) := by decide +kernel
theorem dX7_chance_140 : decode cX7_chance 140 = .ok (.bipush 94, 2) := by decide +kernel
theorem dX7_chance_142 : decode cX7_chance 142 = .ok (.bipush 8, 2) := by decide +kernel
theorem dX7_chance_144 : decode cX7_chance 144 = .ok (.iload_n 1, 1) := by decide +kernel
theorem dX7_chance_145 : decode cX7_chance 145 = .ok (.imul, 1) := by decide +kernel
theorem dX7_chance_146 : decode cX7_chance 146 = .ok (.iadd, 1) := by decide +kernel
theorem dX7_chance_147 : decode cX7_chance 147 = .ok (.iload_n 2, 1) := by decide +kernel
theorem dX7_chance_148 : decode cX7_chance 148 = .ok (.iadd, 1) := by decide +kernel
theorem dX7_chance_149 : decode cX7_chance 149 = .ok (.iaload, 1) := by decide +kernel
theorem dX7_chance_150 : decode cX7_chance 150 = .ok (.iastore, 1) := by decide +kernel
theorem dX7_chance_151 : decode cX7_chance 151 = .ok (.return_, 1) := by decide +kernel
theorem dX7_drift_0 : decode cX7_drift 0 = .ok (.iload_n 1, 1) := by decide +kernel
theorem dX7_drift_1 : decode cX7_drift 1 = .ok (.i2l, 1) := by decide +kernel
theorem dX7_drift_2 : decode cX7_drift 2 = .ok (.lconst 1, 1) := by decide +kernel
theorem dX7_drift_3 : decode cX7_drift 3 = .ok (.ldc2_w 294, 3) := by decide +kernel
theorem dX7_drift_6 : decode cX7_drift 6 = .ok (.invokestatic 53, 3) := by decide +kernel
theorem dX7_drift_9 : decode cX7_drift 9 = .ok (.ifCond .ne 6, 3) := by decide +kernel
theorem dX7_drift_12 : decode cX7_drift 12 = .ok (.ldc 210, 2) := by decide +kernel
theorem dX7_drift_14 : decode cX7_drift 14 = .ok (.ireturn, 1) := by decide +kernel
theorem dX7_drift_15 : decode cX7_drift 15 = .ok (.iconst 0, 1) := by decide +kernel
theorem dX7_drift_16 : decode cX7_drift 16 = .ok (.istore_n 2, 1) := by decide +kernel
theorem dX7_drift_17 : decode cX7_drift 17 = .ok (.iload_n 2, 1) := by decide +kernel
theorem dX7_drift_18 : decode cX7_drift 18 = .ok (.iload_n 1, 1) := by decide +kernel
theorem dX7_drift_19 : decode cX7_drift 19 = .ok (.if_icmp .ge 13, 3) := by decide +kernel
theorem dX7_drift_22 : decode cX7_drift 22 = .ok (.aload_n 0, 1) := by decide +kernel
theorem dX7_drift_23 : decode cX7_drift 23 = .ok (.invokevirtual 296, 3) := by decide +kernel
theorem dX7_drift_26 : decode cX7_drift 26 = .ok (.iinc 2 1, 3) := by decide +kernel
theorem dX7_drift_29 : decode cX7_drift 29 = .ok (.goto (-12), 3) := by decide +kernel
theorem dX7_drift_32 : decode cX7_drift 32 = .ok (.aload_n 0, 1) := by decide +kernel
theorem dX7_drift_33 : decode cX7_drift 33 = .ok (.getfield 7, 3) := by decide +kernel
theorem dX7_drift_36 : decode cX7_drift 36 = .ok (.iconst 0, 1) := by decide +kernel
theorem dX7_drift_37 : decode cX7_drift 37 = .ok (.iaload, 1) := by decide +kernel
theorem dX7_drift_38 : decode cX7_drift 38 = .ok (.ireturn, 1) := by decide +kernel
theorem dX7_undo_0 : decode cX7_undo 0 = .ok (.iload_n 1, 1) := by decide +kernel
theorem dX7_undo_1 : decode cX7_undo 1 = .ok (.i2l, 1) := by decide +kernel
theorem dX7_undo_2 : decode cX7_undo 2 = .ok (.lconst 1, 1) := by decide +kernel
theorem dX7_undo_3 : decode cX7_undo 3 = .ok (.ldc2_w 299, 3) := by decide +kernel
theorem dX7_undo_6 : decode cX7_undo 6 = .ok (.invokestatic 53, 3) := by decide +kernel
theorem dX7_undo_9 : decode cX7_undo 9 = .ok (.ifCond .ne 6, 3) := by decide +kernel
theorem dX7_undo_12 : decode cX7_undo 12 = .ok (.ldc 210, 2) := by decide +kernel
theorem dX7_undo_14 : decode cX7_undo 14 = .ok (.ireturn, 1) := by decide +kernel
theorem dX7_undo_15 : decode cX7_undo 15 = .ok (.iload_n 1, 1) := by decide +kernel
theorem dX7_undo_16 : decode cX7_undo 16 = .ok (.aload_n 0, 1) := by decide +kernel
theorem dX7_undo_17 : decode cX7_undo 17 = .ok (.getfield 48, 3) := by decide +kernel
theorem dX7_undo_20 : decode cX7_undo 20 = .ok (.if_icmp .le 7, 3) := by decide +kernel
theorem dX7_undo_23 : decode cX7_undo 23 = .ok (.ldc_w 280, 3) := by decide +kernel
theorem dX7_undo_26 : decode cX7_undo 26 = .ok (.ireturn, 1) := by decide +kernel
theorem dX7_undo_27 : decode cX7_undo 27 = .ok (.iconst 0, 1) := by decide +kernel
theorem dX7_undo_28 : decode cX7_undo 28 = .ok (.istore_n 2, 1) := by decide +kernel
theorem dX7_undo_29 : decode cX7_undo 29 = .ok (.iload_n 2, 1) := by decide +kernel
theorem dX7_undo_30 : decode cX7_undo 30 = .ok (.iload_n 1, 1) := by decide +kernel
theorem dX7_undo_31 : decode cX7_undo 31 = .ok (.iadd, 1) := by decide +kernel
theorem dX7_undo_32 : decode cX7_undo 32 = .ok (.bipush 16, 2) := by decide +kernel
theorem dX7_undo_34 : decode cX7_undo 34 = .ok (.if_icmp .gt 17, 3) := by decide +kernel
theorem dX7_undo_37 : decode cX7_undo 37 = .ok (.aload_n 0, 1) := by decide +kernel
theorem dX7_undo_38 : decode cX7_undo 38 = .ok (.iload_n 2, 1) := by decide +kernel
theorem dX7_undo_39 : decode cX7_undo 39 = .ok (.iload_n 1, 1) := by decide +kernel
theorem dX7_undo_40 : decode cX7_undo 40 = .ok (.iadd, 1) := by decide +kernel
theorem dX7_undo_41 : decode cX7_undo 41 = .ok (.iload_n 2, 1) := by decide +kernel
theorem dX7_undo_42 : decode cX7_undo 42 = .ok (.invokevirtual 44, 3) := by decide +kernel
theorem dX7_undo_45 : decode cX7_undo 45 = .ok (.iinc 2 1, 3) := by decide +kernel
theorem dX7_undo_48 : decode cX7_undo 48 = .ok (.goto (-19), 3) := by decide +kernel
theorem dX7_undo_51 : decode cX7_undo 51 = .ok (.aload_n 0, 1) := by decide +kernel
theorem dX7_undo_52 : decode cX7_undo 52 = .ok (.dup, 1) := by decide +kernel
theorem dX7_undo_53 : decode cX7_undo 53 = .ok (.getfield 48, 3) := by decide +kernel
theorem dX7_undo_56 : decode cX7_undo 56 = .ok (.iload_n 1, 1) := by decide +kernel
theorem dX7_undo_57 : decode cX7_undo 57 = .ok (.isub, 1) := by decide +kernel
theorem dX7_undo_58 : decode cX7_undo 58 = .ok (.putfield 48, 3) := by decide +kernel
theorem dX7_undo_61 : decode cX7_undo 61 = .ok (.aload_n 0, 1) := by decide +kernel
theorem dX7_undo_62 : decode cX7_undo 62 = .ok (.getfield 7, 3) := by decide +kernel
theorem dX7_undo_65 : decode cX7_undo 65 = .ok (.iconst 0, 1) := by decide +kernel
theorem dX7_undo_66 : decode cX7_undo 66 = .ok (.iaload, 1) := by decide +kernel
theorem dX7_undo_67 : decode cX7_undo 67 = .ok (.ireturn, 1) := by decide +kernel
theorem dX7_write_0 : decode cX7_write 0 = .ok (.aload_n 0, 1) := by decide +kernel
theorem dX7_write_1 : decode cX7_write 1 = .ok (.iload_n 1, 1) := by decide +kernel
theorem dX7_write_2 : decode cX7_write 2 = .ok (.invokevirtual 69, 3) := by decide +kernel
theorem dX7_write_5 : decode cX7_write 5 = .ok (.ifCond .eq 11, 3) := by decide +kernel
theorem dX7_write_8 : decode cX7_write 8 = .ok (.aload_n 0, 1) := by decide +kernel
theorem dX7_write_9 : decode cX7_write 9 = .ok (.iload_n 2, 1) := by decide +kernel
theorem dX7_write_10 : decode cX7_write 10 = .ok (.invokevirtual 69, 3) := by decide +kernel
theorem dX7_write_13 : decode cX7_write 13 = .ok (.ifCond .ne 6, 3) := by decide +kernel
theorem dX7_write_16 : decode cX7_write 16 = .ok (.ldc 239, 2) := by decide +kernel
theorem dX7_write_18 : decode cX7_write 18 = .ok (.ireturn, 1) := by decide +kernel
theorem dX7_write_19 : decode cX7_write 19 = .ok (.aload_n 0, 1) := by decide +kernel
theorem dX7_write_20 : decode cX7_write 20 = .ok (.getfield 240, 3) := by decide +kernel
theorem dX7_write_23 : decode cX7_write 23 = .ok (.bipush 20, 2) := by decide +kernel
theorem dX7_write_25 : decode cX7_write 25 = .ok (.if_icmp .ne 6, 3) := by decide +kernel
theorem dX7_write_28 : decode cX7_write 28 = .ok (.ldc 211, 2) := by decide +kernel
theorem dX7_write_30 : decode cX7_write 30 = .ok (.ireturn, 1) := by decide +kernel
theorem dX7_write_31 : decode cX7_write 31 = .ok (.aload_n 0, 1) := by decide +kernel
theorem dX7_write_32 : decode cX7_write 32 = .ok (.getfield 23, 3) := by decide +kernel
theorem dX7_write_35 : decode cX7_write 35 = .ok (.aload_n 0, 1) := by decide +kernel
theorem dX7_write_36 : decode cX7_write 36 = .ok (.getfield 240, 3) := by decide +kernel
theorem dX7_write_39 : decode cX7_write 39 = .ok (.iload_n 1, 1) := by decide +kernel
theorem dX7_write_40 : decode cX7_write 40 = .ok (.iastore, 1) := by decide +kernel
theorem dX7_write_41 : decode cX7_write 41 = .ok (.aload_n 0, 1) := by decide +kernel
theorem dX7_write_42 : decode cX7_write 42 = .ok (.getfield 26, 3) := by decide +kernel
theorem dX7_write_45 : decode cX7_write 45 = .ok (.aload_n 0, 1) := by decide +kernel
theorem dX7_write_46 : decode cX7_write 46 = .ok (.getfield 240, 3) := by decide +kernel
theorem dX7_write_49 : decode cX7_write 49 = .ok (.iload_n 2, 1) := by decide +kernel
theorem dX7_write_50 : decode cX7_write 50 = .ok (.iastore, 1) := by decide +kernel
theorem dX7_write_51 : decode cX7_write 51 = .ok (.aload_n 0, 1) := by decide +kernel
theorem dX7_write_52 : decode cX7_write 52 = .ok (.getfield 29, 3) := by decide +kernel
theorem dX7_write_55 : decode cX7_write 55 = .ok (.aload_n 0, 1) := by decide +kernel
theorem dX7_write_56 : decode cX7_write 56 = .ok (.getfield 240, 3) := by decide +kernel
theorem dX7_write_59 : decode cX7_write 59 = .ok (.iload_n 3, 1) := by decide +kernel
theorem dX7_write_60 : decode cX7_write 60 = .ok (.iastore, 1) := by decide +kernel
theorem dX7_write_61 : decode cX7_write 61 = .ok (.aload_n 0, 1) := by decide +kernel
theorem dX7_write_62 : decode cX7_write 62 = .ok (.dup, 1) := by decide +kernel
theorem dX7_write_63 : decode cX7_write 63 = .ok (.getfield 240, 3) := by decide +kernel
theorem dX7_write_66 : decode cX7_write 66 = .ok (.iconst 1, 1) := by decide +kernel
theorem dX7_write_67 : decode cX7_write 67 = .ok (.iadd, 1) := by decide +kernel
theorem dX7_write_68 : decode cX7_write 68 = .ok (.putfield 240, 3) := by decide +kernel
theorem dX7_write_71 : decode cX7_write 71 = .ok (.aload_n 0, 1) := by decide +kernel
theorem dX7_write_72 : decode cX7_write 72 = .ok (.getfield 240, 3) := by decide +kernel
theorem dX7_write_75 : decode cX7_write 75 = .ok (.ireturn, 1) := by decide +kernel
theorem dX7_tear_0 : decode cX7_tear 0 = .ok (.aload_n 0, 1) := by decide +kernel
theorem dX7_tear_1 : decode cX7_tear 1 = .ok (.getfield 240, 3) := by decide +kernel
theorem dX7_tear_4 : decode cX7_tear 4 = .ok (.istore_n 1, 1) := by decide +kernel
theorem dX7_tear_5 : decode cX7_tear 5 = .ok (.aload_n 0, 1) := by decide +kernel
theorem dX7_tear_6 : decode cX7_tear 6 = .ok (.iconst 0, 1) := by decide +kernel
theorem dX7_tear_7 : decode cX7_tear 7 = .ok (.putfield 240, 3) := by decide +kernel
theorem dX7_tear_10 : decode cX7_tear 10 = .ok (.iload_n 1, 1) := by decide +kernel
theorem dX7_tear_11 : decode cX7_tear 11 = .ok (.ireturn, 1) := by decide +kernel
theorem dX7_seed_0 : decode cX7_seed 0 = .ok (.iload_n 1, 1) := by decide +kernel
theorem dX7_seed_1 : decode cX7_seed 1 = .ok (.ifCond .ge 6, 3) := by decide +kernel
theorem dX7_seed_4 : decode cX7_seed 4 = .ok (.ldc 210, 2) := by decide +kernel
theorem dX7_seed_6 : decode cX7_seed 6 = .ok (.ireturn, 1) := by decide +kernel
theorem dX7_seed_7 : decode cX7_seed 7 = .ok (.aload_n 0, 1) := by decide +kernel
theorem dX7_seed_8 : decode cX7_seed 8 = .ok (.getfield 246, 3) := by decide +kernel
theorem dX7_seed_11 : decode cX7_seed 11 = .ok (.istore_n 2, 1) := by decide +kernel
theorem dX7_seed_12 : decode cX7_seed 12 = .ok (.aload_n 0, 1) := by decide +kernel
theorem dX7_seed_13 : decode cX7_seed 13 = .ok (.iload_n 1, 1) := by decide +kernel
theorem dX7_seed_14 : decode cX7_seed 14 = .ok (.putfield 246, 3) := by decide +kernel
theorem dX7_seed_17 : decode cX7_seed 17 = .ok (.iload_n 2, 1) := by decide +kernel
theorem dX7_seed_18 : decode cX7_seed 18 = .ok (.ireturn, 1) := by decide +kernel
theorem dX7_keep_0 : decode cX7_keep 0 = .ok (.iload_n 1, 1) := by decide +kernel
theorem dX7_keep_1 : decode cX7_keep 1 = .ok (.i2l, 1) := by decide +kernel
theorem dX7_keep_2 : decode cX7_keep 2 = .ok (.lconst 0, 1) := by decide +kernel
theorem dX7_keep_3 : decode cX7_keep 3 = .ok (.lconst 1, 1) := by decide +kernel
theorem dX7_keep_4 : decode cX7_keep 4 = .ok (.invokestatic 53, 3) := by decide +kernel
theorem dX7_keep_7 : decode cX7_keep 7 = .ok (.ifCond .ne 6, 3) := by decide +kernel
theorem dX7_keep_10 : decode cX7_keep 10 = .ok (.ldc 239, 2) := by decide +kernel
theorem dX7_keep_12 : decode cX7_keep 12 = .ok (.ireturn, 1) := by decide +kernel
theorem dX7_keep_13 : decode cX7_keep 13 = .ok (.aload_n 0, 1) := by decide +kernel
theorem dX7_keep_14 : decode cX7_keep 14 = .ok (.iconst 0, 1) := by decide +kernel
theorem dX7_keep_15 : decode cX7_keep 15 = .ok (.bipush 17, 2) := by decide +kernel
theorem dX7_keep_17 : decode cX7_keep 17 = .ok (.iload_n 1, 1) := by decide +kernel
theorem dX7_keep_18 : decode cX7_keep 18 = .ok (.iadd, 1) := by decide +kernel
theorem dX7_keep_19 : decode cX7_keep 19 = .ok (.invokevirtual 44, 3) := by decide +kernel
theorem dX7_keep_22 : decode cX7_keep 22 = .ok (.aload_n 0, 1) := by decide +kernel
theorem dX7_keep_23 : decode cX7_keep 23 = .ok (.getfield 13, 3) := by decide +kernel
theorem dX7_keep_26 : decode cX7_keep 26 = .ok (.iload_n 1, 1) := by decide +kernel
theorem dX7_keep_27 : decode cX7_keep 27 = .ok (.aload_n 0, 1) := by decide +kernel
theorem dX7_keep_28 : decode cX7_keep 28 = .ok (.getfield 246, 3) := by decide +kernel
theorem dX7_keep_31 : decode cX7_keep 31 = .ok (.iastore, 1) := by decide +kernel
theorem dX7_keep_32 : decode cX7_keep 32 = .ok (.aload_n 0, 1) := by decide +kernel
theorem dX7_keep_33 : decode cX7_keep 33 = .ok (.dup, 1) := by decide +kernel
theorem dX7_keep_34 : decode cX7_keep 34 = .ok (.getfield 301, 3) := by decide +kernel
theorem dX7_keep_37 : decode cX7_keep 37 = .ok (.iconst 1, 1) := by decide +kernel
theorem dX7_keep_38 : decode cX7_keep 38 = .ok (.iload_n 1, 1) := by decide +kernel
theorem dX7_keep_39 : decode cX7_keep 39 = .ok (.ishl, 1) := by decide +kernel
theorem dX7_keep_40 : decode cX7_keep 40 = .ok (.ior, 1) := by decide +kernel
theorem dX7_keep_41 : decode cX7_keep 41 = .ok (.putfield 301, 3) := by decide +kernel
theorem dX7_keep_44 : decode cX7_keep 44 = .ok (.aload_n 0, 1) := by decide +kernel
theorem dX7_keep_45 : decode cX7_keep 45 = .ok (.iconst 0, 1) := by decide +kernel
theorem dX7_keep_46 : decode cX7_keep 46 = .ok (.putfield 48, 3) := by decide +kernel
theorem dX7_keep_49 : decode cX7_keep 49 = .ok (.iconst 1, 1) := by decide +kernel
theorem dX7_keep_50 : decode cX7_keep 50 = .ok (.ireturn, 1) := by decide +kernel
theorem dX7_goBack_0 : decode cX7_goBack 0 = .ok (.iload_n 1, 1) := by decide +kernel
theorem dX7_goBack_1 : decode cX7_goBack 1 = .ok (.i2l, 1) := by decide +kernel
theorem dX7_goBack_2 : decode cX7_goBack 2 = .ok (.lconst 0, 1) := by decide +kernel
theorem dX7_goBack_3 : decode cX7_goBack 3 = .ok (.lconst 1, 1) := by decide +kernel
theorem dX7_goBack_4 : decode cX7_goBack 4 = .ok (.invokestatic 53, 3) := by decide +kernel
theorem dX7_goBack_7 : decode cX7_goBack 7 = .ok (.ifCond .ne 6, 3) := by decide +kernel
theorem dX7_goBack_10 : decode cX7_goBack 10 = .ok (.ldc 239, 2) := by decide +kernel
theorem dX7_goBack_12 : decode cX7_goBack 12 = .ok (.ireturn, 1) := by decide +kernel
theorem dX7_goBack_13 : decode cX7_goBack 13 = .ok (.aload_n 0, 1) := by decide +kernel
theorem dX7_goBack_14 : decode cX7_goBack 14 = .ok (.getfield 301, 3) := by decide +kernel
theorem dX7_goBack_17 : decode cX7_goBack 17 = .ok (.iload_n 1, 1) := by decide +kernel
theorem dX7_goBack_18 : decode cX7_goBack 18 = .ok (.invokestatic 57, 3) := by decide +kernel
theorem dX7_goBack_21 : decode cX7_goBack 21 = .ok (.ifCond .ne 7, 3) := by decide +kernel
theorem dX7_goBack_24 : decode cX7_goBack 24 = .ok (.ldc_w 280, 3) := by decide +kernel
theorem dX7_goBack_27 : decode cX7_goBack 27 = .ok (.ireturn, 1) := by decide +kernel
theorem dX7_goBack_28 : decode cX7_goBack 28 = .ok (.aload_n 0, 1) := by decide +kernel
theorem dX7_goBack_29 : decode cX7_goBack 29 = .ok (.bipush 17, 2) := by decide +kernel
theorem dX7_goBack_31 : decode cX7_goBack 31 = .ok (.iload_n 1, 1) := by decide +kernel
theorem dX7_goBack_32 : decode cX7_goBack 32 = .ok (.iadd, 1) := by decide +kernel
theorem dX7_goBack_33 : decode cX7_goBack 33 = .ok (.iconst 0, 1) := by decide +kernel
theorem dX7_goBack_34 : decode cX7_goBack 34 = .ok (.invokevirtual 44, 3) := by decide +kernel
theorem dX7_goBack_37 : decode cX7_goBack 37 = .ok (.aload_n 0, 1) := by decide +kernel
theorem dX7_goBack_38 : decode cX7_goBack 38 = .ok (.aload_n 0, 1) := by decide +kernel
theorem dX7_goBack_39 : decode cX7_goBack 39 = .ok (.getfield 13, 3) := by decide +kernel
theorem dX7_goBack_42 : decode cX7_goBack 42 = .ok (.iload_n 1, 1) := by decide +kernel
theorem dX7_goBack_43 : decode cX7_goBack 43 = .ok (.iaload, 1) := by decide +kernel
theorem dX7_goBack_44 : decode cX7_goBack 44 = .ok (.putfield 246, 3) := by decide +kernel
theorem dX7_goBack_47 : decode cX7_goBack 47 = .ok (.aload_n 0, 1) := by decide +kernel
theorem dX7_goBack_48 : decode cX7_goBack 48 = .ok (.iconst 0, 1) := by decide +kernel
theorem dX7_goBack_49 : decode cX7_goBack 49 = .ok (.putfield 48, 3) := by decide +kernel
theorem dX7_goBack_52 : decode cX7_goBack 52 = .ok (.iconst 1, 1) := by decide +kernel
theorem dX7_goBack_53 : decode cX7_goBack 53 = .ok (.ireturn, 1) := by decide +kernel
