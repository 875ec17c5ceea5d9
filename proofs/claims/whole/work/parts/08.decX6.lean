theorem dX6_init_0 : decode cX6_init 0 = .ok (.aload_n 0, 1) := by decide +kernel
theorem dX6_init_1 : decode cX6_init 1 = .ok (.invokespecial 1, 3) := by decide +kernel
theorem dX6_init_4 : decode cX6_init 4 = .ok (.aload_n 0, 1) := by decide +kernel
theorem dX6_init_5 : decode cX6_init 5 = .ok (.new 7, 3) := by decide +kernel
theorem dX6_init_8 : decode cX6_init 8 = .ok (.dup, 1) := by decide +kernel
theorem dX6_init_9 : decode cX6_init 9 = .ok (.invokespecial 9, 3) := by decide +kernel
theorem dX6_init_12 : decode cX6_init 12 = .ok (.putfield 10, 3) := by decide +kernel
theorem dX6_init_15 : decode cX6_init 15 = .ok (.aload_n 0, 1) := by decide +kernel
theorem dX6_init_16 : decode cX6_init 16 = .ok (.new 16, 3) := by decide +kernel
theorem dX6_init_19 : decode cX6_init 19 = .ok (.dup, 1) := by decide +kernel
theorem dX6_init_20 : decode cX6_init 20 = .ok (.aload_n 0, 1) := by decide +kernel
theorem dX6_init_21 : decode cX6_init 21 = .ok (.getfield 10, 3) := by decide +kernel
theorem dX6_init_24 : decode cX6_init 24 = .ok (.invokespecial 18, 3) := by decide +kernel
theorem dX6_init_27 : decode cX6_init 27 = .ok (.putfield 21, 3) := by decide +kernel
theorem dX6_init_30 : decode cX6_init 30 = .ok (.aload_n 0, 1) := by decide +kernel
theorem dX6_init_31 : decode cX6_init 31 = .ok (.new 25, 3) := by decide +kernel
theorem dX6_init_34 : decode cX6_init 34 = .ok (.dup, 1) := by decide +kernel
theorem dX6_init_35 : decode cX6_init 35 = .ok (.invokespecial 27, 3) := by decide +kernel
theorem dX6_init_38 : decode cX6_init 38 = .ok (.putfield 28, 3) := by decide +kernel
theorem dX6_init_41 : decode cX6_init 41 = .ok (.aload_n 0, 1) := by decide +kernel
theorem dX6_init_42 : decode cX6_init 42 = .ok (.new 32, 3) := by decide +kernel
theorem dX6_init_45 : decode cX6_init 45 = .ok (.dup, 1) := by decide +kernel
theorem dX6_init_46 : decode cX6_init 46 = .ok (.invokespecial 34, 3) := by decide +kernel
theorem dX6_init_49 : decode cX6_init 49 = .ok (.putfield 35, 3) := by decide +kernel
theorem dX6_init_52 : decode cX6_init 52 = .ok (.aload_n 0, 1) := by decide +kernel
theorem dX6_init_53 : decode cX6_init 53 = .ok (.new 39, 3) := by decide +kernel
theorem dX6_init_56 : decode cX6_init 56 = .ok (.dup, 1) := by decide +kernel
theorem dX6_init_57 : decode cX6_init 57 = .ok (.invokespecial 41, 3) := by decide +kernel
theorem dX6_init_60 : decode cX6_init 60 = .ok (.putfield 42, 3) := by decide +kernel
theorem dX6_init_63 : decode cX6_init 63 = .ok (.aload_n 0, 1) := by decide +kernel
theorem dX6_init_64 : decode cX6_init 64 = .ok (.iconst 2, 1) := by decide +kernel
theorem dX6_init_65 : decode cX6_init 65 = .ok (.anewarray 7, 3) := by decide +kernel
theorem dX6_init_68 : decode cX6_init 68 = .ok (.putfield 46, 3) := by decide +kernel
theorem dX6_init_71 : decode cX6_init 71 = .ok (.aload_n 0, 1) := by decide +kernel
theorem dX6_init_72 : decode cX6_init 72 = .ok (.iconst 2, 1) := by decide +kernel
theorem dX6_init_73 : decode cX6_init 73 = .ok (.newarray .int, 2) := by decide +kernel
theorem dX6_init_75 : decode cX6_init 75 = .ok (.putfield 50, 3) := by decide +kernel
theorem dX6_init_78 : decode cX6_init 78 = .ok (.aload_n 0, 1) := by decide +kernel
theorem dX6_init_79 : decode cX6_init 79 = .ok (.iconst 2, 1) := by decide +kernel
theorem dX6_init_80 : decode cX6_init 80 = .ok (.newarray .boolean, 2) := by decide +kernel
theorem dX6_init_82 : decode cX6_init 82 = .ok (.putfield 54, 3) := by decide +kernel
theorem dX6_init_85 : decode cX6_init 85 = .ok (.aload_n 0, 1) := by decide +kernel
theorem dX6_init_86 : decode cX6_init 86 = .ok (.iconst 5, 1) := by decide +kernel
theorem dX6_init_87 : decode cX6_init 87 = .ok (.newarray .int, 2) := by decide +kernel
theorem dX6_init_89 : decode cX6_init 89 = .ok (.putfield 58, 3) := by decide +kernel
theorem dX6_init_92 : decode cX6_init 92 = .ok (.aload_n 0, 1) := by decide +kernel
theorem dX6_init_93 : decode cX6_init 93 = .ok (.iconst 0, 1) := by decide +kernel
theorem dX6_init_94 : decode cX6_init 94 = .ok (.putfield 61, 3) := by decide +kernel
theorem dX6_init_97 : decode cX6_init 97 = .ok (.iconst 0, 1) := by decide +kernel
theorem dX6_init_98 : decode cX6_init 98 = .ok (.istore_n 1, 1) := by decide +kernel
theorem dX6_init_99 : decode cX6_init 99 = .ok (.iload_n 1, 1) := by decide +kernel
theorem dX6_init_100 : decode cX6_init 100 = .ok (.iconst 2, 1) := by decide +kernel
theorem dX6_init_101 : decode cX6_init 101 = .ok (.if_icmp .ge 22, 3) := by decide +kernel
theorem dX6_init_104 : decode cX6_init 104 = .ok (.aload_n 0, 1) := by decide +kernel
theorem dX6_init_105 : decode cX6_init 105 = .ok (.getfield 46, 3) := by decide +kernel
theorem dX6_init_108 : decode cX6_init 108 = .ok (.iload_n 1, 1) := by decide +kernel
theorem dX6_init_109 : decode cX6_init 109 = .ok (.new 7, 3) := by decide +kernel
theorem dX6_init_112 : decode cX6_init 112 = .ok (.dup, 1) := by decide +kernel
theorem dX6_init_113 : decode cX6_init 113 = .ok (.invokespecial 9, 3) := by decide +kernel
theorem dX6_init_116 : decode cX6_init 116 = .ok (.aastore, 1) := by decide +kernel
theorem dX6_init_117 : decode cX6_init 117 = .ok (.iinc 1 1, 3) := by decide +kernel
theorem dX6_init_120 : decode cX6_init 120 = .ok (.goto (-21), 3) := by decide +kernel
theorem dX6_init_123 : decode cX6_init 123 = .ok (.return_, 1) := by decide +kernel
theorem dX6_feed_0 : decode cX6_feed 0 = .ok (.iload_n 1, 1) := by decide +kernel
theorem dX6_feed_1 : decode cX6_feed 1 = .ok (.ifCond .lt 10, 3) := by decide +kernel
theorem dX6_feed_4 : decode cX6_feed 4 = .ok (.iload_n 1, 1) := by decide +kernel
theorem dX6_feed_5 : decode cX6_feed 5 = .ok (.sipush 255, 3) := by decide +kernel
theorem dX6_feed_8 : decode cX6_feed 8 = .ok (.if_icmp .le 6, 3) := by decide +kernel
theorem dX6_feed_11 : decode cX6_feed 11 = .ok (.ldc 65, 2) := by decide +kernel
theorem dX6_feed_13 : decode cX6_feed 13 = .ok (.ireturn, 1) := by decide +kernel
theorem dX6_feed_14 : decode cX6_feed 14 = .ok (.aload_n 0, 1) := by decide +kernel
theorem dX6_feed_15 : decode cX6_feed 15 = .ok (.getfield 28, 3) := by decide +kernel
theorem dX6_feed_18 : decode cX6_feed 18 = .ok (.iload_n 1, 1) := by decide +kernel
theorem dX6_feed_19 : decode cX6_feed 19 = .ok (.invokevirtual 66, 3) := by decide +kernel
theorem dX6_feed_22 : decode cX6_feed 22 = .ok (.ifCond .eq 13, 3) := by decide +kernel
theorem dX6_feed_25 : decode cX6_feed 25 = .ok (.aload_n 0, 1) := by decide +kernel
theorem dX6_feed_26 : decode cX6_feed 26 = .ok (.getfield 28, 3) := by decide +kernel
theorem dX6_feed_29 : decode cX6_feed 29 = .ok (.getfield 70, 3) := by decide +kernel
theorem dX6_feed_32 : decode cX6_feed 32 = .ok (.goto 5, 3) := by decide +kernel
theorem dX6_feed_35 : decode cX6_feed 35 = .ok (.ldc 73, 2) := by decide +kernel
theorem dX6_feed_37 : decode cX6_feed 37 = .ok (.ireturn, 1) := by decide +kernel
theorem dX6_tell_0 : decode cX6_tell 0 = .ok (.aload_n 0, 1) := by decide +kernel
theorem dX6_tell_1 : decode cX6_tell 1 = .ok (.getfield 28, 3) := by decide +kernel
theorem dX6_tell_4 : decode cX6_tell 4 = .ok (.aload_n 0, 1) := by decide +kernel
theorem dX6_tell_5 : decode cX6_tell 5 = .ok (.getfield 10, 3) := by decide +kernel
theorem dX6_tell_8 : decode cX6_tell 8 = .ok (.invokevirtual 74, 3) := by decide +kernel
theorem dX6_tell_11 : decode cX6_tell 11 = .ok (.aload_n 0, 1) := by decide +kernel
theorem dX6_tell_12 : decode cX6_tell 12 = .ok (.getfield 28, 3) := by decide +kernel
theorem dX6_tell_15 : decode cX6_tell 15 = .ok (.getfield 77, 3) := by decide +kernel
theorem dX6_tell_18 : decode cX6_tell 18 = .ok (.ifCond .eq 14, 3) := by decide +kernel
theorem dX6_tell_21 : decode cX6_tell 21 = .ok (.bipush (-10), 2) := by decide +kernel
theorem dX6_tell_23 : decode cX6_tell 23 = .ok (.aload_n 0, 1) := by decide +kernel
theorem dX6_tell_24 : decode cX6_tell 24 = .ok (.getfield 28, 3) := by decide +kernel
theorem dX6_tell_27 : decode cX6_tell 27 = .ok (.getfield 77, 3) := by decide +kernel
theorem dX6_tell_30 : decode cX6_tell 30 = .ok (.isub, 1) := by decide +kernel
theorem dX6_tell_31 : decode cX6_tell 31 = .ok (.ireturn, 1) := by decide +kernel
theorem dX6_tell_32 : decode cX6_tell 32 = .ok (.aload_n 0, 1) := by decide +kernel
theorem dX6_tell_33 : decode cX6_tell 33 = .ok (.getfield 35, 3) := by decide +kernel
theorem dX6_tell_36 : decode cX6_tell 36 = .ok (.aload_n 0, 1) := by decide +kernel
theorem dX6_tell_37 : decode cX6_tell 37 = .ok (.getfield 10, 3) := by decide +kernel
theorem dX6_tell_40 : decode cX6_tell 40 = .ok (.invokevirtual 80, 3) := by decide +kernel
theorem dX6_tell_43 : decode cX6_tell 43 = .ok (.aload_n 0, 1) := by decide +kernel
theorem dX6_tell_44 : decode cX6_tell 44 = .ok (.getfield 10, 3) := by decide +kernel
theorem dX6_tell_47 : decode cX6_tell 47 = .ok (.aload_n 0, 1) := by decide +kernel
theorem dX6_tell_48 : decode cX6_tell 48 = .ok (.getfield 28, 3) := by decide +kernel
theorem dX6_tell_51 : decode cX6_tell 51 = .ok (.getfield 83, 3) := by decide +kernel
theorem dX6_tell_54 : decode cX6_tell 54 = .ok (.invokevirtual 86, 3) := by decide +kernel
theorem dX6_tell_57 : decode cX6_tell 57 = .ok (.aload_n 0, 1) := by decide +kernel
theorem dX6_tell_58 : decode cX6_tell 58 = .ok (.getfield 28, 3) := by decide +kernel
theorem dX6_tell_61 : decode cX6_tell 61 = .ok (.getfield 89, 3) := by decide +kernel
theorem dX6_tell_64 : decode cX6_tell 64 = .ok (.ireturn, 1) := by decide +kernel
theorem dX6_fault_0 : decode cX6_fault 0 = .ok (.aload_n 0, 1) := by decide +kernel
theorem dX6_fault_1 : decode cX6_fault 1 = .ok (.getfield 28, 3) := by decide +kernel
theorem dX6_fault_4 : decode cX6_fault 4 = .ok (.getfield 92, 3) := by decide +kernel
theorem dX6_fault_7 : decode cX6_fault 7 = .ok (.ireturn, 1) := by decide +kernel
theorem dX6_told_0 : decode cX6_told 0 = .ok (.aload_n 0, 1) := by decide +kernel
theorem dX6_told_1 : decode cX6_told 1 = .ok (.getfield 21, 3) := by decide +kernel
theorem dX6_told_4 : decode cX6_told 4 = .ok (.invokevirtual 95, 3) := by decide +kernel
theorem dX6_told_7 : decode cX6_told 7 = .ok (.iload_n 1, 1) := by decide +kernel
theorem dX6_told_8 : decode cX6_told 8 = .ok (.tableswitch 204 0 16 #[84, 92, 103, 114, 122, 130, 138, 146, 146, 146, 146, 146, 159, 167, 175, 191, 199], 84) := by decide +kernel
theorem dX6_told_92 : decode cX6_told 92 = .ok (.aload_n 0, 1) := by decide +kernel
theorem dX6_told_93 : decode cX6_told 93 = .ok (.getfield 10, 3) := by decide +kernel
theorem dX6_told_96 : decode cX6_told 96 = .ok (.getfield 98, 3) := by decide +kernel
theorem dX6_told_99 : decode cX6_told 99 = .ok (.ireturn, 1) := by decide +kernel
theorem dX6_told_100 : decode cX6_told 100 = .ok (.aload_n 0, 1) := by decide +kernel
theorem dX6_told_101 : decode cX6_told 101 = .ok (.getfield 21, 3) := by decide +kernel
theorem dX6_told_104 : decode cX6_told 104 = .ok (.getfield 101, 3) := by decide +kernel
theorem dX6_told_107 : decode cX6_told 107 = .ok (.getfield 105, 3) := by decide +kernel
theorem dX6_told_110 : decode cX6_told 110 = .ok (.ireturn, 1) := by decide +kernel
theorem dX6_told_111 : decode cX6_told 111 = .ok (.aload_n 0, 1) := by decide +kernel
theorem dX6_told_112 : decode cX6_told 112 = .ok (.getfield 21, 3) := by decide +kernel
theorem dX6_told_115 : decode cX6_told 115 = .ok (.getfield 110, 3) := by decide +kernel
theorem dX6_told_118 : decode cX6_told 118 = .ok (.getfield 105, 3) := by decide +kernel
theorem dX6_told_121 : decode cX6_told 121 = .ok (.ireturn, 1) := by decide +kernel
theorem dX6_told_122 : decode cX6_told 122 = .ok (.aload_n 0, 1) := by decide +kernel
theorem dX6_told_123 : decode cX6_told 123 = .ok (.getfield 10, 3) := by decide +kernel
theorem dX6_told_126 : decode cX6_told 126 = .ok (.invokevirtual 113, 3) := by decide +kernel
theorem dX6_told_129 : decode cX6_told 129 = .ok (.ireturn, 1) := by decide +kernel
theorem dX6_told_130 : decode cX6_told 130 = .ok (.aload_n 0, 1) := by decide +kernel
theorem dX6_told_131 : decode cX6_told 131 = .ok (.getfield 21, 3) := by decide +kernel
theorem dX6_told_134 : decode cX6_told 134 = .ok (.invokevirtual 117, 3) := by decide +kernel
theorem dX6_told_137 : decode cX6_told 137 = .ok (.ireturn, 1) := by decide +kernel
theorem dX6_told_138 : decode cX6_told 138 = .ok (.aload_n 0, 1) := by decide +kernel
theorem dX6_told_139 : decode cX6_told 139 = .ok (.getfield 21, 3) := by decide +kernel
theorem dX6_told_142 : decode cX6_told 142 = .ok (.invokevirtual 120, 3) := by decide +kernel
theorem dX6_told_145 : decode cX6_told 145 = .ok (.ireturn, 1) := by decide +kernel
theorem dX6_told_146 : decode cX6_told 146 = .ok (.aload_n 0, 1) := by decide +kernel
theorem dX6_told_147 : decode cX6_told 147 = .ok (.getfield 21, 3) := by decide +kernel
theorem dX6_told_150 : decode cX6_told 150 = .ok (.invokevirtual 123, 3) := by decide +kernel
theorem dX6_told_153 : decode cX6_told 153 = .ok (.ireturn, 1) := by decide +kernel
theorem dX6_told_154 : decode cX6_told 154 = .ok (.aload_n 0, 1) := by decide +kernel
theorem dX6_told_155 : decode cX6_told 155 = .ok (.getfield 10, 3) := by decide +kernel
theorem dX6_told_158 : decode cX6_told 158 = .ok (.getfield 126, 3) := by decide +kernel
theorem dX6_told_161 : decode cX6_told 161 = .ok (.iload_n 1, 1) := by decide +kernel
theorem dX6_told_162 : decode cX6_told 162 = .ok (.bipush 7, 2) := by decide +kernel
theorem dX6_told_164 : decode cX6_told 164 = .ok (.isub, 1) := by decide +kernel
theorem dX6_told_165 : decode cX6_told 165 = .ok (.iaload, 1) := by decide +kernel
theorem dX6_told_166 : decode cX6_told 166 = .ok (.ireturn, 1) := by decide +kernel
theorem dX6_told_167 : decode cX6_told 167 = .ok (.aload_n 0, 1) := by decide +kernel
theorem dX6_told_168 : decode cX6_told 168 = .ok (.getfield 28, 3) := by decide +kernel
theorem dX6_told_171 : decode cX6_told 171 = .ok (.getfield 70, 3) := by decide +kernel
theorem dX6_told_174 : decode cX6_told 174 = .ok (.ireturn, 1) := by decide +kernel
theorem dX6_told_175 : decode cX6_told 175 = .ok (.aload_n 0, 1) := by decide +kernel
theorem dX6_told_176 : decode cX6_told 176 = .ok (.getfield 42, 3) := by decide +kernel
theorem dX6_told_179 : decode cX6_told 179 = .ok (.getfield 129, 3) := by decide +kernel
theorem dX6_told_182 : decode cX6_told 182 = .ok (.ireturn, 1) := by decide +kernel
theorem dX6_told_183 : decode cX6_told 183 = .ok (.aload_n 0, 1) := by decide +kernel
theorem dX6_told_184 : decode cX6_told 184 = .ok (.getfield 42, 3) := by decide +kernel
theorem dX6_told_187 : decode cX6_told 187 = .ok (.aload_n 0, 1) := by decide +kernel
theorem dX6_told_188 : decode cX6_told 188 = .ok (.getfield 10, 3) := by decide +kernel
theorem dX6_told_191 : decode cX6_told 191 = .ok (.aload_n 0, 1) := by decide +kernel
theorem dX6_told_192 : decode cX6_told 192 = .ok (.getfield 21, 3) := by decide +kernel
theorem dX6_told_195 : decode cX6_told 195 = .ok (.invokevirtual 130, 3) := by decide +kernel
theorem dX6_told_198 : decode cX6_told 198 = .ok (.ireturn, 1) := by decide +kernel
theorem dX6_told_199 : decode cX6_told 199 = .ok (.aload_n 0, 1) := by decide +kernel
theorem dX6_told_200 : decode cX6_told 200 = .ok (.getfield 35, 3) := by decide +kernel
theorem dX6_told_203 : decode cX6_told 203 = .ok (.getfield 134, 3) := by decide +kernel
theorem dX6_told_206 : decode cX6_told 206 = .ok (.ireturn, 1) := by decide +kernel
theorem dX6_told_207 : decode cX6_told 207 = .ok (.aload_n 0, 1) := by decide +kernel
theorem dX6_told_208 : decode cX6_told 208 = .ok (.getfield 61, 3) := by decide +kernel
theorem dX6_told_211 : decode cX6_told 211 = .ok (.ireturn, 1) := by decide +kernel
theorem dX6_told_212 : decode cX6_told 212 = .ok (.ldc 65, 2) := by decide +kernel
theorem dX6_told_214 : decode cX6_told 214 = .ok (.ireturn, 1) := by decide +kernel
theorem dX6_edge_0 : decode cX6_edge 0 = .ok (.aload_n 0, 1) := by decide +kernel
theorem dX6_edge_1 : decode cX6_edge 1 = .ok (.getfield 10, 3) := by decide +kernel
theorem dX6_edge_4 : decode cX6_edge 4 = .ok (.iload_n 1, 1) := by decide +kernel
theorem dX6_edge_5 : decode cX6_edge 5 = .ok (.invokevirtual 135, 3) := by decide +kernel
theorem dX6_edge_8 : decode cX6_edge 8 = .ok (.ifCond .ne 6, 3) := by decide +kernel
theorem dX6_edge_11 : decode cX6_edge 11 = .ok (.ldc 138, 2) := by decide +kernel
theorem dX6_edge_13 : decode cX6_edge 13 = .ok (.ireturn, 1) := by decide +kernel
theorem dX6_edge_14 : decode cX6_edge 14 = .ok (.iload_n 2, 1) := by decide +kernel
theorem dX6_edge_15 : decode cX6_edge 15 = .ok (.invokestatic 139, 3) := by decide +kernel
theorem dX6_edge_18 : decode cX6_edge 18 = .ok (.ifCond .eq 12, 3) := by decide +kernel
theorem dX6_edge_21 : decode cX6_edge 21 = .ok (.iload_n 3, 1) := by decide +kernel
theorem dX6_edge_22 : decode cX6_edge 22 = .ok (.ifCond .lt 8, 3) := by decide +kernel
theorem dX6_edge_25 : decode cX6_edge 25 = .ok (.iload_n 3, 1) := by decide +kernel
theorem dX6_edge_26 : decode cX6_edge 26 = .ok (.iconst 5, 1) := by decide +kernel
theorem dX6_edge_27 : decode cX6_edge 27 = .ok (.if_icmp .lt 6, 3) := by decide +kernel
theorem dX6_edge_30 : decode cX6_edge 30 = .ok (.ldc 65, 2) := by decide +kernel
theorem dX6_edge_32 : decode cX6_edge 32 = .ok (.ireturn, 1) := by decide +kernel
theorem dX6_edge_33 : decode cX6_edge 33 = .ok (.aload_n 0, 1) := by decide +kernel
theorem dX6_edge_34 : decode cX6_edge 34 = .ok (.getfield 10, 3) := by decide +kernel
theorem dX6_edge_37 : decode cX6_edge 37 = .ok (.iload_n 1, 1) := by decide +kernel
theorem dX6_edge_38 : decode cX6_edge 38 = .ok (.iload_n 2, 1) := by decide +kernel
theorem dX6_edge_39 : decode cX6_edge 39 = .ok (.iload_n 3, 1) := by decide +kernel
theorem dX6_edge_40 : decode cX6_edge 40 = .ok (.invokevirtual 142, 3) := by decide +kernel
theorem dX6_edge_43 : decode cX6_edge 43 = .ok (.ireturn, 1) := by decide +kernel
theorem dX6_at_0 : decode cX6_at 0 = .ok (.aload_n 0, 1) := by decide +kernel
theorem dX6_at_1 : decode cX6_at 1 = .ok (.getfield 10, 3) := by decide +kernel
theorem dX6_at_4 : decode cX6_at 4 = .ok (.iload_n 1, 1) := by decide +kernel
theorem dX6_at_5 : decode cX6_at 5 = .ok (.invokevirtual 135, 3) := by decide +kernel
theorem dX6_at_8 : decode cX6_at 8 = .ok (.ifCond .ne 6, 3) := by decide +kernel
theorem dX6_at_11 : decode cX6_at 11 = .ok (.ldc 138, 2) := by decide +kernel
theorem dX6_at_13 : decode cX6_at 13 = .ok (.ireturn, 1) := by decide +kernel
theorem dX6_at_14 : decode cX6_at 14 = .ok (.aload_n 0, 1) := by decide +kernel
theorem dX6_at_15 : decode cX6_at 15 = .ok (.getfield 21, 3) := by decide +kernel
theorem dX6_at_18 : decode cX6_at 18 = .ok (.invokevirtual 95, 3) := by decide +kernel
theorem dX6_at_21 : decode cX6_at 21 = .ok (.iload_n 2, 1) := by decide +kernel
theorem dX6_at_22 : decode cX6_at 22 = .ok (.tableswitch 62 0 2 #[26, 36, 49], 26) := by decide +kernel
theorem dX6_at_48 : decode cX6_at 48 = .ok (.aload_n 0, 1) := by decide +kernel
theorem dX6_at_49 : decode cX6_at 49 = .ok (.getfield 10, 3) := by decide +kernel
theorem dX6_at_52 : decode cX6_at 52 = .ok (.getfield 146, 3) := by decide +kernel
theorem dX6_at_55 : decode cX6_at 55 = .ok (.iload_n 1, 1) := by decide +kernel
theorem dX6_at_56 : decode cX6_at 56 = .ok (.iaload, 1) := by decide +kernel
theorem dX6_at_57 : decode cX6_at 57 = .ok (.ireturn, 1) := by decide +kernel
theorem dX6_at_58 : decode cX6_at 58 = .ok (.aload_n 0, 1) := by decide +kernel
theorem dX6_at_59 : decode cX6_at 59 = .ok (.getfield 21, 3) := by decide +kernel
theorem dX6_at_62 : decode cX6_at 62 = .ok (.getfield 101, 3) := by decide +kernel
theorem dX6_at_65 : decode cX6_at 65 = .ok (.getfield 149, 3) := by decide +kernel
theorem dX6_at_68 : decode cX6_at 68 = .ok (.iload_n 1, 1) := by decide +kernel
theorem dX6_at_69 : decode cX6_at 69 = .ok (.iaload, 1) := by decide +kernel
theorem dX6_at_70 : decode cX6_at 70 = .ok (.ireturn, 1) := by decide +kernel
theorem dX6_at_71 : decode cX6_at 71 = .ok (.aload_n 0, 1) := by decide +kernel
theorem dX6_at_72 : decode cX6_at 72 = .ok (.getfield 21, 3) := by decide +kernel
theorem dX6_at_75 : decode cX6_at 75 = .ok (.getfield 110, 3) := by decide +kernel
theorem dX6_at_78 : decode cX6_at 78 = .ok (.getfield 149, 3) := by decide +kernel
theorem dX6_at_81 : decode cX6_at 81 = .ok (.iload_n 1, 1) := by decide +kernel
theorem dX6_at_82 : decode cX6_at 82 = .ok (.iaload, 1) := by decide +kernel
theorem dX6_at_83 : decode cX6_at 83 = .ok (.ireturn, 1) := by decide +kernel
theorem dX6_at_84 : decode cX6_at 84 = .ok (.ldc 65, 2) := by decide +kernel
theorem dX6_at_86 : decode cX6_at 86 = .ok (.ireturn, 1) := by decide +kernel
theorem dX6_far_0 : decode cX6_far 0 = .ok (.aload_n 0, 1) := by decide +kernel
theorem dX6_far_1 : decode cX6_far 1 = .ok (.getfield 10, 3) := by decide +kernel
theorem dX6_far_4 : decode cX6_far 4 = .ok (.iload_n 1, 1) := by decide +kernel
theorem dX6_far_5 : decode cX6_far 5 = .ok (.iload_n 2, 1) := by decide +kernel
theorem dX6_far_6 : decode cX6_far 6 = .ok (.invokevirtual 152, 3) := by decide +kernel
theorem dX6_far_9 : decode cX6_far 9 = .ok (.ifCond .ne 6, 3) := by decide +kernel
theorem dX6_far_12 : decode cX6_far 12 = .ok (.ldc 138, 2) := by decide +kernel
theorem dX6_far_14 : decode cX6_far 14 = .ok (.ireturn, 1) := by decide +kernel
theorem dX6_far_15 : decode cX6_far 15 = .ok (.iload_n 3, 1) := by decide +kernel
theorem dX6_far_16 : decode cX6_far 16 = .ok (.invokestatic 139, 3) := by decide +kernel
theorem dX6_far_19 : decode cX6_far 19 = .ok (.ifCond .eq 16, 3) := by decide +kernel
theorem dX6_far_22 : decode cX6_far 22 = .ok (.aload_n 0, 1) := by decide +kernel
theorem dX6_far_23 : decode cX6_far 23 = .ok (.getfield 10, 3) := by decide +kernel
theorem dX6_far_26 : decode cX6_far 26 = .ok (.iload_n 1, 1) := by decide +kernel
theorem dX6_far_27 : decode cX6_far 27 = .ok (.iload_n 2, 1) := by decide +kernel
theorem dX6_far_28 : decode cX6_far 28 = .ok (.iload_n 3, 1) := by decide +kernel
theorem dX6_far_29 : decode cX6_far 29 = .ok (.invokevirtual 156, 3) := by decide +kernel
theorem dX6_far_32 : decode cX6_far 32 = .ok (.goto 5, 3) := by decide +kernel
theorem dX6_far_35 : decode cX6_far 35 = .ok (.ldc 65, 2) := by decide +kernel
theorem dX6_far_37 : decode cX6_far 37 = .ok (.ireturn, 1) := by decide +kernel
theorem dX6_pair_0 : decode cX6_pair 0 = .ok (.aload_n 0, 1) := by decide +kernel
theorem dX6_pair_1 : decode cX6_pair 1 = .ok (.getfield 10, 3) := by decide +kernel
theorem dX6_pair_4 : decode cX6_pair 4 = .ok (.iload_n 1, 1) := by decide +kernel
theorem dX6_pair_5 : decode cX6_pair 5 = .ok (.iload_n 2, 1) := by decide +kernel
theorem dX6_pair_6 : decode cX6_pair 6 = .ok (.invokevirtual 152, 3) := by decide +kernel
theorem dX6_pair_9 : decode cX6_pair 9 = .ok (.ifCond .ne 6, 3) := by decide +kernel
theorem dX6_pair_12 : decode cX6_pair 12 = .ok (.ldc 138, 2) := by decide +kernel
theorem dX6_pair_14 : decode cX6_pair 14 = .ok (.ireturn, 1) := by decide +kernel
theorem dX6_pair_15 : decode cX6_pair 15 = .ok (.aload_n 0, 1) := by decide +kernel
theorem dX6_pair_16 : decode cX6_pair 16 = .ok (.getfield 21, 3) := by decide +kernel
theorem dX6_pair_19 : decode cX6_pair 19 = .ok (.invokevirtual 95, 3) := by decide +kernel
theorem dX6_pair_22 : decode cX6_pair 22 = .ok (.iload_n 3, 1) := by decide +kernel
theorem dX6_pair_23 : decode cX6_pair 23 = .ok (.tableswitch 125 0 4 #[33, 46, 75, 93, 106], 33) := by decide +kernel
theorem dX6_pair_56 : decode cX6_pair 56 = .ok (.aload_n 0, 1) := by decide +kernel
theorem dX6_pair_57 : decode cX6_pair 57 = .ok (.getfield 21, 3) := by decide +kernel
theorem dX6_pair_60 : decode cX6_pair 60 = .ok (.iload_n 1, 1) := by decide +kernel
theorem dX6_pair_61 : decode cX6_pair 61 = .ok (.iload_n 2, 1) := by decide +kernel
theorem dX6_pair_62 : decode cX6_pair 62 = .ok (.invokevirtual 159, 3) := by decide +kernel
theorem dX6_pair_65 : decode cX6_pair 65 = .ok (.bipush 100, 2) := by decide +kernel
theorem dX6_pair_67 : decode cX6_pair 67 = .ok (.iadd, 1) := by decide +kernel
theorem dX6_pair_68 : decode cX6_pair 68 = .ok (.ireturn, 1) := by decide +kernel
theorem dX6_pair_69 : decode cX6_pair 69 = .ok (.aload_n 0, 1) := by decide +kernel
theorem dX6_pair_70 : decode cX6_pair 70 = .ok (.getfield 10, 3) := by decide +kernel
theorem dX6_pair_73 : decode cX6_pair 73 = .ok (.iload_n 1, 1) := by decide +kernel
theorem dX6_pair_74 : decode cX6_pair 74 = .ok (.iload_n 2, 1) := by decide +kernel
theorem dX6_pair_75 : decode cX6_pair 75 = .ok (.invokevirtual 163, 3) := by decide +kernel
theorem dX6_pair_78 : decode cX6_pair 78 = .ok (.ifCond .eq 18, 3) := by decide +kernel
theorem dX6_pair_81 : decode cX6_pair 81 = .ok (.aload_n 0, 1) := by decide +kernel
theorem dX6_pair_82 : decode cX6_pair 82 = .ok (.getfield 10, 3) := by decide +kernel
theorem dX6_pair_85 : decode cX6_pair 85 = .ok (.iload_n 1, 1) := by decide +kernel
theorem dX6_pair_86 : decode cX6_pair 86 = .ok (.iload_n 2, 1) := by decide +kernel
theorem dX6_pair_87 : decode cX6_pair 87 = .ok (.invokevirtual 166, 3) := by decide +kernel
theorem dX6_pair_90 : decode cX6_pair 90 = .ok (.bipush 100, 2) := by decide +kernel
theorem dX6_pair_92 : decode cX6_pair 92 = .ok (.iadd, 1) := by decide +kernel
theorem dX6_pair_93 : decode cX6_pair 93 = .ok (.goto 4, 3) := by decide +kernel
theorem dX6_pair_96 : decode cX6_pair 96 = .ok (.iconst (-1), 1) := by decide +kernel
theorem dX6_pair_97 : decode cX6_pair 97 = .ok (.ireturn, 1) := by decide +kernel
theorem dX6_pair_98 : decode cX6_pair 98 = .ok (.aload_n 0, 1) := by decide +kernel
theorem dX6_pair_99 : decode cX6_pair 99 = .ok (.getfield 21, 3) := by decide +kernel
theorem dX6_pair_102 : decode cX6_pair 102 = .ok (.iload_n 1, 1) := by decide +kernel
theorem dX6_pair_103 : decode cX6_pair 103 = .ok (.iload_n 2, 1) := by decide +kernel
theorem dX6_pair_104 : decode cX6_pair 104 = .ok (.invokevirtual 169, 3) := by decide +kernel
theorem dX6_pair_107 : decode cX6_pair 107 = .ok (.ifCond .eq 7, 3) := by decide +kernel
theorem dX6_pair_110 : decode cX6_pair 110 = .ok (.iconst 1, 1) := by decide +kernel
theorem dX6_pair_111 : decode cX6_pair 111 = .ok (.goto 4, 3) := by decide +kernel
theorem dX6_pair_114 : decode cX6_pair 114 = .ok (.iconst 0, 1) := by decide +kernel
theorem dX6_pair_115 : decode cX6_pair 115 = .ok (.ireturn, 1) := by decide +kernel
theorem dX6_pair_116 : decode cX6_pair 116 = .ok (.aload_n 0, 1) := by decide +kernel
theorem dX6_pair_117 : decode cX6_pair 117 = .ok (.getfield 10, 3) := by decide +kernel
theorem dX6_pair_120 : decode cX6_pair 120 = .ok (.iload_n 1, 1) := by decide +kernel
theorem dX6_pair_121 : decode cX6_pair 121 = .ok (.iload_n 2, 1) := by decide +kernel
theorem dX6_pair_122 : decode cX6_pair 122 = .ok (.invokevirtual 172, 3) := by decide +kernel
theorem dX6_pair_125 : decode cX6_pair 125 = .ok (.bipush 100, 2) := by decide +kernel
theorem dX6_pair_127 : decode cX6_pair 127 = .ok (.iadd, 1) := by decide +kernel
theorem dX6_pair_128 : decode cX6_pair 128 = .ok (.ireturn, 1) := by decide +kernel
theorem dX6_pair_129 : decode cX6_pair 129 = .ok (.aload_n 0, 1) := by decide +kernel
theorem dX6_pair_130 : decode cX6_pair 130 = .ok (.getfield 10, 3) := by decide +kernel
theorem dX6_pair_133 : decode cX6_pair 133 = .ok (.iload_n 1, 1) := by decide +kernel
theorem dX6_pair_134 : decode cX6_pair 134 = .ok (.iload_n 2, 1) := by decide +kernel
theorem dX6_pair_135 : decode cX6_pair 135 = .ok (.aload_n 0, 1) := by decide +kernel
theorem dX6_pair_136 : decode cX6_pair 136 = .ok (.getfield 21, 3) := by decide +kernel
theorem dX6_pair_139 : decode cX6_pair 139 = .ok (.iload_n 1, 1) := by decide +kernel
theorem dX6_pair_140 : decode cX6_pair 140 = .ok (.iload_n 2, 1) := by decide +kernel
theorem dX6_pair_141 : decode cX6_pair 141 = .ok (.invokevirtual 159, 3) := by decide +kernel
theorem dX6_pair_144 : decode cX6_pair 144 = .ok (.invokevirtual 175, 3) := by decide +kernel
theorem dX6_pair_147 : decode cX6_pair 147 = .ok (.ireturn, 1) := by decide +kernel
theorem dX6_pair_148 : decode cX6_pair 148 = .ok (.ldc 65, 2) := by decide +kernel
theorem dX6_pair_150 : decode cX6_pair 150 = .ok (.ireturn, 1) := by decide +kernel
theorem dX6_cell_0 : decode cX6_cell 0 = .ok (.aload_n 0, 1) := by decide +kernel
theorem dX6_cell_1 : decode cX6_cell 1 = .ok (.getfield 21, 3) := by decide +kernel
theorem dX6_cell_4 : decode cX6_cell 4 = .ok (.invokevirtual 95, 3) := by decide +kernel
theorem dX6_cell_7 : decode cX6_cell 7 = .ok (.iload_n 1, 1) := by decide +kernel
theorem dX6_cell_8 : decode cX6_cell 8 = .ok (.ifCond .lt 35, 3) := by decide +kernel
theorem dX6_cell_11 : decode cX6_cell 11 = .ok (.iload_n 1, 1) := by decide +kernel
theorem dX6_cell_12 : decode cX6_cell 12 = .ok (.aload_n 0, 1) := by decide +kernel
theorem dX6_cell_13 : decode cX6_cell 13 = .ok (.getfield 21, 3) := by decide +kernel
theorem dX6_cell_16 : decode cX6_cell 16 = .ok (.getfield 110, 3) := by decide +kernel
theorem dX6_cell_19 : decode cX6_cell 19 = .ok (.getfield 105, 3) := by decide +kernel
theorem dX6_cell_22 : decode cX6_cell 22 = .ok (.if_icmp .ge 21, 3) := by decide +kernel
theorem dX6_cell_25 : decode cX6_cell 25 = .ok (.iload_n 2, 1) := by decide +kernel
theorem dX6_cell_26 : decode cX6_cell 26 = .ok (.ifCond .lt 17, 3) := by decide +kernel
theorem dX6_cell_29 : decode cX6_cell 29 = .ok (.iload_n 2, 1) := by decide +kernel
theorem dX6_cell_30 : decode cX6_cell 30 = .ok (.aload_n 0, 1) := by decide +kernel
theorem dX6_cell_31 : decode cX6_cell 31 = .ok (.getfield 21, 3) := by decide +kernel
theorem dX6_cell_34 : decode cX6_cell 34 = .ok (.getfield 101, 3) := by decide +kernel
theorem dX6_cell_37 : decode cX6_cell 37 = .ok (.getfield 105, 3) := by decide +kernel
theorem dX6_cell_40 : decode cX6_cell 40 = .ok (.if_icmp .lt 6, 3) := by decide +kernel
theorem dX6_cell_43 : decode cX6_cell 43 = .ok (.ldc 138, 2) := by decide +kernel
theorem dX6_cell_45 : decode cX6_cell 45 = .ok (.ireturn, 1) := by decide +kernel
theorem dX6_cell_46 : decode cX6_cell 46 = .ok (.aload_n 0, 1) := by decide +kernel
theorem dX6_cell_47 : decode cX6_cell 47 = .ok (.getfield 21, 3) := by decide +kernel
theorem dX6_cell_50 : decode cX6_cell 50 = .ok (.iload_n 1, 1) := by decide +kernel
theorem dX6_cell_51 : decode cX6_cell 51 = .ok (.iload_n 2, 1) := by decide +kernel
theorem dX6_cell_52 : decode cX6_cell 52 = .ok (.invokevirtual 178, 3) := by decide +kernel
theorem dX6_cell_55 : decode cX6_cell 55 = .ok (.iload_n 3, 1) := by decide +kernel
theorem dX6_cell_56 : decode cX6_cell 56 = .ok (.tableswitch 91 0 5 #[40, 48, 56, 64, 75, 83], 40) := by decide +kernel
theorem dX6_cell_96 : decode cX6_cell 96 = .ok (.aload_n 0, 1) := by decide +kernel
theorem dX6_cell_97 : decode cX6_cell 97 = .ok (.getfield 21, 3) := by decide +kernel
theorem dX6_cell_100 : decode cX6_cell 100 = .ok (.getfield 182, 3) := by decide +kernel
theorem dX6_cell_103 : decode cX6_cell 103 = .ok (.ireturn, 1) := by decide +kernel
theorem dX6_cell_104 : decode cX6_cell 104 = .ok (.aload_n 0, 1) := by decide +kernel
theorem dX6_cell_105 : decode cX6_cell 105 = .ok (.getfield 21, 3) := by decide +kernel
theorem dX6_cell_108 : decode cX6_cell 108 = .ok (.getfield 185, 3) := by decide +kernel
theorem dX6_cell_111 : decode cX6_cell 111 = .ok (.ireturn, 1) := by decide +kernel
theorem dX6_cell_112 : decode cX6_cell 112 = .ok (.aload_n 0, 1) := by decide +kernel
theorem dX6_cell_113 : decode cX6_cell 113 = .ok (.getfield 21, 3) := by decide +kernel
theorem dX6_cell_116 : decode cX6_cell 116 = .ok (.getfield 188, 3) := by decide +kernel
theorem dX6_cell_119 : decode cX6_cell 119 = .ok (.ireturn, 1) := by decide +kernel
theorem dX6_cell_120 : decode cX6_cell 120 = .ok (.aload_n 0, 1) := by decide +kernel
theorem dX6_cell_121 : decode cX6_cell 121 = .ok (.getfield 21, 3) := by decide +kernel
theorem dX6_cell_124 : decode cX6_cell 124 = .ok (.invokevirtual 191, 3) := by decide +kernel
theorem dX6_cell_127 : decode cX6_cell 127 = .ok (.bipush 100, 2) := by decide +kernel
theorem dX6_cell_129 : decode cX6_cell 129 = .ok (.iadd, 1) := by decide +kernel
theorem dX6_cell_130 : decode cX6_cell 130 = .ok (.ireturn, 1) := by decide +kernel
theorem dX6_cell_131 : decode cX6_cell 131 = .ok (.aload_n 0, 1) := by decide +kernel
theorem dX6_cell_132 : decode cX6_cell 132 = .ok (.getfield 21, 3) := by decide +kernel
theorem dX6_cell_135 : decode cX6_cell 135 = .ok (.invokevirtual 194, 3) := by decide +kernel
theorem dX6_cell_138 : decode cX6_cell 138 = .ok (.ireturn, 1) := by decide +kernel
theorem dX6_cell_139 : decode cX6_cell 139 = .ok (.aload_n 0, 1) := by decide +kernel
theorem dX6_cell_140 : decode cX6_cell 140 = .ok (.getfield 21, 3) := by decide +kernel
theorem dX6_cell_143 : decode cX6_cell 143 = .ok (.invokevirtual 197, 3) := by decide +kernel
theorem dX6_cell_146 : decode cX6_cell 146 = .ok (.ireturn, 1) := by decide +kernel
theorem dX6_cell_147 : decode cX6_cell 147 = .ok (.ldc 65, 2) := by decide +kernel
theorem dX6_cell_149 : decode cX6_cell 149 = .ok (.ireturn, 1) := by decide +kernel
theorem dX6_line_0 : decode cX6_line 0 = .ok (.aload_n 0, 1) := by decide +kernel
theorem dX6_line_1 : decode cX6_line 1 = .ok (.getfield 21, 3) := by decide +kernel
theorem dX6_line_4 : decode cX6_line 4 = .ok (.invokevirtual 95, 3) := by decide +kernel
theorem dX6_line_7 : decode cX6_line 7 = .ok (.iload_n 1, 1) := by decide +kernel
theorem dX6_line_8 : decode cX6_line 8 = .ok (.ifCond .lt 14, 3) := by decide +kernel
theorem dX6_line_11 : decode cX6_line 11 = .ok (.iload_n 1, 1) := by decide +kernel
theorem dX6_line_12 : decode cX6_line 12 = .ok (.aload_n 0, 1) := by decide +kernel
theorem dX6_line_13 : decode cX6_line 13 = .ok (.getfield 21, 3) := by decide +kernel
theorem dX6_line_16 : decode cX6_line 16 = .ok (.invokevirtual 120, 3) := by decide +kernel
theorem dX6_line_19 : decode cX6_line 19 = .ok (.if_icmp .lt 6, 3) := by decide +kernel
theorem dX6_line_22 : decode cX6_line 22 = .ok (.ldc 138, 2) := by decide +kernel
theorem dX6_line_24 : decode cX6_line 24 = .ok (.ireturn, 1) := by decide +kernel
theorem dX6_line_25 : decode cX6_line 25 = .ok (.iload_n 2, 1) := by decide +kernel
theorem dX6_line_26 : decode cX6_line 26 = .ok (.ifCond .ge 6, 3) := by decide +kernel
theorem dX6_line_29 : decode cX6_line 29 = .ok (.ldc 65, 2) := by decide +kernel
theorem dX6_line_31 : decode cX6_line 31 = .ok (.ireturn, 1) := by decide +kernel
theorem dX6_line_32 : decode cX6_line 32 = .ok (.new 200, 3) := by decide +kernel
theorem dX6_line_35 : decode cX6_line 35 = .ok (.dup, 1) := by decide +kernel
theorem dX6_line_36 : decode cX6_line 36 = .ok (.invokespecial 202, 3) := by decide +kernel
theorem dX6_line_39 : decode cX6_line 39 = .ok (.astore_n 3, 1) := by decide +kernel
theorem dX6_line_40 : decode cX6_line 40 = .ok (.aload_n 0, 1) := by decide +kernel
theorem dX6_line_41 : decode cX6_line 41 = .ok (.getfield 21, 3) := by decide +kernel
theorem dX6_line_44 : decode cX6_line 44 = .ok (.iload_n 1, 1) := by decide +kernel
theorem dX6_line_45 : decode cX6_line 45 = .ok (.aload_n 3, 1) := by decide +kernel
theorem dX6_line_46 : decode cX6_line 46 = .ok (.invokevirtual 203, 3) := by decide +kernel
theorem dX6_line_49 : decode cX6_line 49 = .ok (.iload_n 2, 1) := by decide +kernel
theorem dX6_line_50 : decode cX6_line 50 = .ok (.aload_n 3, 1) := by decide +kernel
theorem dX6_line_51 : decode cX6_line 51 = .ok (.invokevirtual 207, 3) := by decide +kernel
theorem dX6_line_54 : decode cX6_line 54 = .ok (.if_icmp .ge 11, 3) := by decide +kernel
theorem dX6_line_57 : decode cX6_line 57 = .ok (.aload_n 3, 1) := by decide +kernel
theorem dX6_line_58 : decode cX6_line 58 = .ok (.iload_n 2, 1) := by decide +kernel
theorem dX6_line_59 : decode cX6_line 59 = .ok (.invokevirtual 209, 3) := by decide +kernel
theorem dX6_line_62 : decode cX6_line 62 = .ok (.goto 4, 3) := by decide +kernel
theorem dX6_line_65 : decode cX6_line 65 = .ok (.iconst (-1), 1) := by decide +kernel
theorem dX6_line_66 : decode cX6_line 66 = .ok (.ireturn, 1) := by decide +kernel
theorem dX6_word_0 : decode cX6_word 0 = .ok (.iload_n 1, 1) := by decide +kernel
theorem dX6_word_1 : decode cX6_word 1 = .ok (.iconst 1, 1) := by decide +kernel
theorem dX6_word_2 : decode cX6_word 2 = .ok (.if_icmp .lt 8, 3) := by decide +kernel
theorem dX6_word_5 : decode cX6_word 5 = .ok (.iload_n 1, 1) := by decide +kernel
theorem dX6_word_6 : decode cX6_word 6 = .ok (.iconst 5, 1) := by decide +kernel
theorem dX6_word_7 : decode cX6_word 7 = .ok (.if_icmp .le 6, 3) := by decide +kernel
theorem dX6_word_10 : decode cX6_word 10 = .ok (.ldc 65, 2) := by decide +kernel
theorem dX6_word_12 : decode cX6_word 12 = .ok (.ireturn, 1) := by decide +kernel
theorem dX6_word_13 : decode cX6_word 13 = .ok (.aload_n 0, 1) := by decide +kernel
theorem dX6_word_14 : decode cX6_word 14 = .ok (.getfield 58, 3) := by decide +kernel
theorem dX6_word_17 : decode cX6_word 17 = .ok (.iconst 0, 1) := by decide +kernel
theorem dX6_word_18 : decode cX6_word 18 = .ok (.iload_n 2, 1) := by decide +kernel
theorem dX6_word_19 : decode cX6_word 19 = .ok (.iastore, 1) := by decide +kernel
theorem dX6_word_20 : decode cX6_word 20 = .ok (.aload_n 0, 1) := by decide +kernel
theorem dX6_word_21 : decode cX6_word 21 = .ok (.getfield 58, 3) := by decide +kernel
theorem dX6_word_24 : decode cX6_word 24 = .ok (.iconst 1, 1) := by decide +kernel
theorem dX6_word_25 : decode cX6_word 25 = .ok (.iload_n 3, 1) := by decide +kernel
theorem dX6_word_26 : decode cX6_word 26 = .ok (.iastore, 1) := by decide +kernel
theorem dX6_word_27 : decode cX6_word 27 = .ok (.aload_n 0, 1) := by decide +kernel
theorem dX6_word_28 : decode cX6_word 28 = .ok (.getfield 58, 3) := by decide +kernel
theorem dX6_word_31 : decode cX6_word 31 = .ok (.iconst 2, 1) := by decide +kernel
theorem dX6_word_32 : decode cX6_word 32 = .ok (.iload 4, 2) := by decide +kernel
theorem dX6_word_34 : decode cX6_word 34 = .ok (.iastore, 1) := by decide +kernel
theorem dX6_word_35 : decode cX6_word 35 = .ok (.aload_n 0, 1) := by decide +kernel
theorem dX6_word_36 : decode cX6_word 36 = .ok (.getfield 58, 3) := by decide +kernel
theorem dX6_word_39 : decode cX6_word 39 = .ok (.iconst 3, 1) := by decide +kernel
theorem dX6_word_40 : decode cX6_word 40 = .ok (.iload 5, 2) := by decide +kernel
theorem dX6_word_42 : decode cX6_word 42 = .ok (.iastore, 1) := by decide +kernel
theorem dX6_word_43 : decode cX6_word 43 = .ok (.aload_n 0, 1) := by decide +kernel
theorem dX6_word_44 : decode cX6_word 44 = .ok (.getfield 58, 3) := by decide +kernel
theorem dX6_word_47 : decode cX6_word 47 = .ok (.iconst 4, 1) := by decide +kernel
theorem dX6_word_48 : decode cX6_word 48 = .ok (.iload 6, 2) := by decide +kernel
theorem dX6_word_50 : decode cX6_word 50 = .ok (.iastore, 1) := by decide +kernel
theorem dX6_word_51 : decode cX6_word 51 = .ok (.iconst 0, 1) := by decide +kernel
theorem dX6_word_52 : decode cX6_word 52 = .ok (.istore 7, 2) := by decide +kernel
theorem dX6_word_54 : decode cX6_word 54 = .ok (.iload 7, 2) := by decide +kernel
theorem dX6_word_56 : decode cX6_word 56 = .ok (.iload_n 1, 1) := by decide +kernel
theorem dX6_word_57 : decode cX6_word 57 = .ok (.if_icmp .ge 29, 3) := by decide +kernel
theorem dX6_word_60 : decode cX6_word 60 = .ok (.aload_n 0, 1) := by decide +kernel
theorem dX6_word_61 : decode cX6_word 61 = .ok (.getfield 10, 3) := by decide +kernel
theorem dX6_word_64 : decode cX6_word 64 = .ok (.aload_n 0, 1) := by decide +kernel
theorem dX6_word_65 : decode cX6_word 65 = .ok (.getfield 58, 3) := by decide +kernel
theorem dX6_word_68 : decode cX6_word 68 = .ok (.iload 7, 2) := by decide +kernel
theorem dX6_word_70 : decode cX6_word 70 = .ok (.iaload, 1) := by decide +kernel
theorem dX6_word_71 : decode cX6_word 71 = .ok (.invokevirtual 135, 3) := by decide +kernel
theorem dX6_word_74 : decode cX6_word 74 = .ok (.ifCond .ne 6, 3) := by decide +kernel
theorem dX6_word_77 : decode cX6_word 77 = .ok (.ldc 138, 2) := by decide +kernel
theorem dX6_word_79 : decode cX6_word 79 = .ok (.ireturn, 1) := by decide +kernel
theorem dX6_word_80 : decode cX6_word 80 = .ok (.iinc 7 1, 3) := by decide +kernel
theorem dX6_word_83 : decode cX6_word 83 = .ok (.goto (-29), 3) := by decide +kernel
theorem dX6_word_86 : decode cX6_word 86 = .ok (.aload_n 0, 1) := by decide +kernel
theorem dX6_word_87 : decode cX6_word 87 = .ok (.getfield 21, 3) := by decide +kernel
theorem dX6_word_90 : decode cX6_word 90 = .ok (.invokevirtual 95, 3) := by decide +kernel
theorem dX6_word_93 : decode cX6_word 93 = .ok (.sipush 1000, 3) := by decide +kernel
theorem dX6_word_96 : decode cX6_word 96 = .ok (.istore 7, 2) := by decide +kernel
theorem dX6_word_98 : decode cX6_word 98 = .ok (.iconst 0, 1) := by decide +kernel
theorem dX6_word_99 : decode cX6_word 99 = .ok (.istore 8, 2) := by decide +kernel
theorem dX6_word_101 : decode cX6_word 101 = .ok (.iload 8, 2) := by decide +kernel
theorem dX6_word_103 : decode cX6_word 103 = .ok (.iload_n 1, 1) := by decide +kernel
theorem dX6_word_104 : decode cX6_word 104 = .ok (.if_icmp .ge 62, 3) := by decide +kernel
theorem dX6_word_107 : decode cX6_word 107 = .ok (.iload 7, 2) := by decide +kernel
theorem dX6_word_109 : decode cX6_word 109 = .ok (.aload_n 0, 1) := by decide +kernel
theorem dX6_word_110 : decode cX6_word 110 = .ok (.getfield 10, 3) := by decide +kernel
theorem dX6_word_113 : decode cX6_word 113 = .ok (.getfield 146, 3) := by decide +kernel
theorem dX6_word_116 : decode cX6_word 116 = .ok (.aload_n 0, 1) := by decide +kernel
theorem dX6_word_117 : decode cX6_word 117 = .ok (.getfield 58, 3) := by decide +kernel
theorem dX6_word_120 : decode cX6_word 120 = .ok (.iload 8, 2) := by decide +kernel
theorem dX6_word_122 : decode cX6_word 122 = .ok (.iaload, 1) := by decide +kernel
theorem dX6_word_123 : decode cX6_word 123 = .ok (.iaload, 1) := by decide +kernel
theorem dX6_word_124 : decode cX6_word 124 = .ok (.iadd, 1) := by decide +kernel
theorem dX6_word_125 : decode cX6_word 125 = .ok (.istore 7, 2) := by decide +kernel
theorem dX6_word_127 : decode cX6_word 127 = .ok (.iload 8, 2) := by decide +kernel
theorem dX6_word_129 : decode cX6_word 129 = .ok (.ifCond .le 31, 3) := by decide +kernel
theorem dX6_word_132 : decode cX6_word 132 = .ok (.iload 7, 2) := by decide +kernel
theorem dX6_word_134 : decode cX6_word 134 = .ok (.aload_n 0, 1) := by decide +kernel
theorem dX6_word_135 : decode cX6_word 135 = .ok (.getfield 21, 3) := by decide +kernel
theorem dX6_word_138 : decode cX6_word 138 = .ok (.aload_n 0, 1) := by decide +kernel
theorem dX6_word_139 : decode cX6_word 139 = .ok (.getfield 58, 3) := by decide +kernel
theorem dX6_word_142 : decode cX6_word 142 = .ok (.iload 8, 2) := by decide +kernel
theorem dX6_word_144 : decode cX6_word 144 = .ok (.iconst 1, 1) := by decide +kernel
theorem dX6_word_145 : decode cX6_word 145 = .ok (.isub, 1) := by decide +kernel
theorem dX6_word_146 : decode cX6_word 146 = .ok (.iaload, 1) := by decide +kernel
theorem dX6_word_147 : decode cX6_word 147 = .ok (.aload_n 0, 1) := by decide +kernel
theorem dX6_word_148 : decode cX6_word 148 = .ok (.getfield 58, 3) := by decide +kernel
theorem dX6_word_151 : decode cX6_word 151 = .ok (.iload 8, 2) := by decide +kernel
theorem dX6_word_153 : decode cX6_word 153 = .ok (.iaload, 1) := by decide +kernel
theorem dX6_word_154 : decode cX6_word 154 = .ok (.invokevirtual 159, 3) := by decide +kernel
theorem dX6_word_157 : decode cX6_word 157 = .ok (.iadd, 1) := by decide +kernel
theorem dX6_word_158 : decode cX6_word 158 = .ok (.istore 7, 2) := by decide +kernel
theorem dX6_word_160 : decode cX6_word 160 = .ok (.iinc 8 1, 3) := by decide +kernel
theorem dX6_word_163 : decode cX6_word 163 = .ok (.goto (-62), 3) := by decide +kernel
theorem dX6_word_166 : decode cX6_word 166 = .ok (.iload 7, 2) := by decide +kernel
theorem dX6_word_168 : decode cX6_word 168 = .ok (.ireturn, 1) := by decide +kernel
theorem dX6_letter_0 : decode cX6_letter 0 = .ok (.iload_n 1, 1) := by decide +kernel
theorem dX6_letter_1 : decode cX6_letter 1 = .ok (.ifCond .lt 36, 3) := by decide +kernel
theorem dX6_letter_4 : decode cX6_letter 4 = .ok (.iload_n 1, 1) := by decide +kernel
theorem dX6_letter_5 : decode cX6_letter 5 = .ok (.bipush 8, 2) := by decide +kernel
theorem dX6_letter_7 : decode cX6_letter 7 = .ok (.if_icmp .ge 30, 3) := by decide +kernel
theorem dX6_letter_10 : decode cX6_letter 10 = .ok (.iload_n 2, 1) := by decide +kernel
theorem dX6_letter_11 : decode cX6_letter 11 = .ok (.invokestatic 213, 3) := by decide +kernel
theorem dX6_letter_14 : decode cX6_letter 14 = .ok (.ifCond .eq 23, 3) := by decide +kernel
theorem dX6_letter_17 : decode cX6_letter 17 = .ok (.iload_n 3, 1) := by decide +kernel
theorem dX6_letter_18 : decode cX6_letter 18 = .ok (.invokestatic 213, 3) := by decide +kernel
theorem dX6_letter_21 : decode cX6_letter 21 = .ok (.ifCond .eq 16, 3) := by decide +kernel
theorem dX6_letter_24 : decode cX6_letter 24 = .ok (.iload 4, 2) := by decide +kernel
theorem dX6_letter_26 : decode cX6_letter 26 = .ok (.iconst 1, 1) := by decide +kernel
theorem dX6_letter_27 : decode cX6_letter 27 = .ok (.if_icmp .lt 10, 3) := by decide +kernel
theorem dX6_letter_30 : decode cX6_letter 30 = .ok (.iload 4, 2) := by decide +kernel
theorem dX6_letter_32 : decode cX6_letter 32 = .ok (.bipush 9, 2) := by decide +kernel
theorem dX6_letter_34 : decode cX6_letter 34 = .ok (.if_icmp .le 6, 3) := by decide +kernel
theorem dX6_letter_37 : decode cX6_letter 37 = .ok (.ldc 65, 2) := by decide +kernel
theorem dX6_letter_39 : decode cX6_letter 39 = .ok (.ireturn, 1) := by decide +kernel
theorem dX6_letter_40 : decode cX6_letter 40 = .ok (.aload_n 0, 1) := by decide +kernel
theorem dX6_letter_41 : decode cX6_letter 41 = .ok (.getfield 35, 3) := by decide +kernel
theorem dX6_letter_44 : decode cX6_letter 44 = .ok (.aload_n 0, 1) := by decide +kernel
theorem dX6_letter_45 : decode cX6_letter 45 = .ok (.getfield 10, 3) := by decide +kernel
theorem dX6_letter_48 : decode cX6_letter 48 = .ok (.invokevirtual 80, 3) := by decide +kernel
theorem dX6_letter_51 : decode cX6_letter 51 = .ok (.aload_n 0, 1) := by decide +kernel
theorem dX6_letter_52 : decode cX6_letter 52 = .ok (.getfield 10, 3) := by decide +kernel
theorem dX6_letter_55 : decode cX6_letter 55 = .ok (.iload_n 1, 1) := by decide +kernel
theorem dX6_letter_56 : decode cX6_letter 56 = .ok (.iload_n 2, 1) := by decide +kernel
theorem dX6_letter_57 : decode cX6_letter 57 = .ok (.iload_n 3, 1) := by decide +kernel
theorem dX6_letter_58 : decode cX6_letter 58 = .ok (.iload 4, 2) := by decide +kernel
theorem dX6_letter_60 : decode cX6_letter 60 = .ok (.invokevirtual 216, 3) := by decide +kernel
theorem dX6_letter_63 : decode cX6_letter 63 = .ok (.aload_n 0, 1) := by decide +kernel
theorem dX6_letter_64 : decode cX6_letter 64 = .ok (.getfield 10, 3) := by decide +kernel
theorem dX6_letter_67 : decode cX6_letter 67 = .ok (.invokevirtual 220, 3) := by decide +kernel
theorem dX6_letter_70 : decode cX6_letter 70 = .ok (.ireturn, 1) := by decide +kernel
theorem dX6_forget_0 : decode cX6_forget 0 = .ok (.aload_n 0, 1) := by decide +kernel
theorem dX6_forget_1 : decode cX6_forget 1 = .ok (.getfield 10, 3) := by decide +kernel
theorem dX6_forget_4 : decode cX6_forget 4 = .ok (.iload_n 1, 1) := by decide +kernel
theorem dX6_forget_5 : decode cX6_forget 5 = .ok (.invokevirtual 135, 3) := by decide +kernel
theorem dX6_forget_8 : decode cX6_forget 8 = .ok (.ifCond .ne 6, 3) := by decide +kernel
theorem dX6_forget_11 : decode cX6_forget 11 = .ok (.ldc 138, 2) := by decide +kernel
theorem dX6_forget_13 : decode cX6_forget 13 = .ok (.ireturn, 1) := by decide +kernel
theorem dX6_forget_14 : decode cX6_forget 14 = .ok (.aload_n 0, 1) := by decide +kernel
theorem dX6_forget_15 : decode cX6_forget 15 = .ok (.getfield 35, 3) := by decide +kernel
theorem dX6_forget_18 : decode cX6_forget 18 = .ok (.aload_n 0, 1) := by decide +kernel
theorem dX6_forget_19 : decode cX6_forget 19 = .ok (.getfield 10, 3) := by decide +kernel
theorem dX6_forget_22 : decode cX6_forget 22 = .ok (.invokevirtual 80, 3) := by decide +kernel
theorem dX6_forget_25 : decode cX6_forget 25 = .ok (.aload_n 0, 1) := by decide +kernel
theorem dX6_forget_26 : decode cX6_forget 26 = .ok (.getfield 10, 3) := by decide +kernel
theorem dX6_forget_29 : decode cX6_forget 29 = .ok (.iload_n 1, 1) := by decide +kernel
theorem dX6_forget_30 : decode cX6_forget 30 = .ok (.invokevirtual 223, 3) := by decide +kernel
theorem dX6_forget_33 : decode cX6_forget 33 = .ok (.aload_n 0, 1) := by decide +kernel
theorem dX6_forget_34 : decode cX6_forget 34 = .ok (.getfield 10, 3) := by decide +kernel
theorem dX6_forget_37 : decode cX6_forget 37 = .ok (.invokevirtual 220, 3) := by decide +kernel
theorem dX6_forget_40 : decode cX6_forget 40 = .ok (.ireturn, 1) := by decide +kernel
theorem dX6_judge_0 : decode cX6_judge 0 = .ok (.aload_n 0, 1) := by decide +kernel
theorem dX6_judge_1 : decode cX6_judge 1 = .ok (.getfield 10, 3) := by decide +kernel
theorem dX6_judge_4 : decode cX6_judge 4 = .ok (.iload_n 1, 1) := by decide +kernel
theorem dX6_judge_5 : decode cX6_judge 5 = .ok (.iload_n 2, 1) := by decide +kernel
theorem dX6_judge_6 : decode cX6_judge 6 = .ok (.invokevirtual 152, 3) := by decide +kernel
theorem dX6_judge_9 : decode cX6_judge 9 = .ok (.ifCond .ne 6, 3) := by decide +kernel
theorem dX6_judge_12 : decode cX6_judge 12 = .ok (.ldc 138, 2) := by decide +kernel
theorem dX6_judge_14 : decode cX6_judge 14 = .ok (.ireturn, 1) := by decide +kernel
theorem dX6_judge_15 : decode cX6_judge 15 = .ok (.iload_n 3, 1) := by decide +kernel
theorem dX6_judge_16 : decode cX6_judge 16 = .ok (.bipush (-20), 2) := by decide +kernel
theorem dX6_judge_18 : decode cX6_judge 18 = .ok (.if_icmp .lt 9, 3) := by decide +kernel
theorem dX6_judge_21 : decode cX6_judge 21 = .ok (.iload_n 3, 1) := by decide +kernel
theorem dX6_judge_22 : decode cX6_judge 22 = .ok (.bipush 20, 2) := by decide +kernel
theorem dX6_judge_24 : decode cX6_judge 24 = .ok (.if_icmp .le 6, 3) := by decide +kernel
theorem dX6_judge_27 : decode cX6_judge 27 = .ok (.ldc 65, 2) := by decide +kernel
theorem dX6_judge_29 : decode cX6_judge 29 = .ok (.ireturn, 1) := by decide +kernel
theorem dX6_judge_30 : decode cX6_judge 30 = .ok (.aload_n 0, 1) := by decide +kernel
theorem dX6_judge_31 : decode cX6_judge 31 = .ok (.getfield 35, 3) := by decide +kernel
theorem dX6_judge_34 : decode cX6_judge 34 = .ok (.aload_n 0, 1) := by decide +kernel
theorem dX6_judge_35 : decode cX6_judge 35 = .ok (.getfield 10, 3) := by decide +kernel
theorem dX6_judge_38 : decode cX6_judge 38 = .ok (.invokevirtual 80, 3) := by decide +kernel
theorem dX6_judge_41 : decode cX6_judge 41 = .ok (.aload_n 0, 1) := by decide +kernel
theorem dX6_judge_42 : decode cX6_judge 42 = .ok (.getfield 10, 3) := by decide +kernel
theorem dX6_judge_45 : decode cX6_judge 45 = .ok (.iload_n 1, 1) := by decide +kernel
theorem dX6_judge_46 : decode cX6_judge 46 = .ok (.iload_n 2, 1) := by decide +kernel
theorem dX6_judge_47 : decode cX6_judge 47 = .ok (.iload_n 3, 1) := by decide +kernel
theorem dX6_judge_48 : decode cX6_judge 48 = .ok (.invokevirtual 227, 3) := by decide +kernel
theorem dX6_judge_51 : decode cX6_judge 51 = .ok (.aload_n 0, 1) := by decide +kernel
theorem dX6_judge_52 : decode cX6_judge 52 = .ok (.getfield 21, 3) := by decide +kernel
theorem dX6_judge_55 : decode cX6_judge 55 = .ok (.invokevirtual 95, 3) := by decide +kernel
theorem dX6_judge_58 : decode cX6_judge 58 = .ok (.aload_n 0, 1) := by decide +kernel
theorem dX6_judge_59 : decode cX6_judge 59 = .ok (.getfield 21, 3) := by decide +kernel
theorem dX6_judge_62 : decode cX6_judge 62 = .ok (.iload_n 1, 1) := by decide +kernel
theorem dX6_judge_63 : decode cX6_judge 63 = .ok (.iload_n 2, 1) := by decide +kernel
theorem dX6_judge_64 : decode cX6_judge 64 = .ok (.invokevirtual 159, 3) := by decide +kernel
theorem dX6_judge_67 : decode cX6_judge 67 = .ok (.bipush 100, 2) := by decide +kernel
theorem dX6_judge_69 : decode cX6_judge 69 = .ok (.iadd, 1) := by decide +kernel
theorem dX6_judge_70 : decode cX6_judge 70 = .ok (.ireturn, 1) := by decide +kernel
theorem dX6_withdraw_0 : decode cX6_withdraw 0 = .ok (.aload_n 0, 1) := by decide +kernel
theorem dX6_withdraw_1 : decode cX6_withdraw 1 = .ok (.getfield 10, 3) := by decide +kernel
theorem dX6_withdraw_4 : decode cX6_withdraw 4 = .ok (.iload_n 1, 1) := by decide +kernel
theorem dX6_withdraw_5 : decode cX6_withdraw 5 = .ok (.iload_n 2, 1) := by decide +kernel
theorem dX6_withdraw_6 : decode cX6_withdraw 6 = .ok (.invokevirtual 152, 3) := by decide +kernel
theorem dX6_withdraw_9 : decode cX6_withdraw 9 = .ok (.ifCond .ne 6, 3) := by decide +kernel
theorem dX6_withdraw_12 : decode cX6_withdraw 12 = .ok (.ldc 138, 2) := by decide +kernel
theorem dX6_withdraw_14 : decode cX6_withdraw 14 = .ok (.ireturn, 1) := by decide +kernel
theorem dX6_withdraw_15 : decode cX6_withdraw 15 = .ok (.aload_n 0, 1) := by decide +kernel
theorem dX6_withdraw_16 : decode cX6_withdraw 16 = .ok (.getfield 10, 3) := by decide +kernel
theorem dX6_withdraw_19 : decode cX6_withdraw 19 = .ok (.iload_n 1, 1) := by decide +kernel
theorem dX6_withdraw_20 : decode cX6_withdraw 20 = .ok (.iload_n 2, 1) := by decide +kernel
theorem dX6_withdraw_21 : decode cX6_withdraw 21 = .ok (.invokevirtual 163, 3) := by decide +kernel
theorem dX6_withdraw_24 : decode cX6_withdraw 24 = .ok (.ifCond .ne 6, 3) := by decide +kernel
theorem dX6_withdraw_27 : decode cX6_withdraw 27 = .ok (.ldc 231, 2) := by decide +kernel
theorem dX6_withdraw_29 : decode cX6_withdraw 29 = .ok (.ireturn, 1) := by decide +kernel
theorem dX6_withdraw_30 : decode cX6_withdraw 30 = .ok (.aload_n 0, 1) := by decide +kernel
theorem dX6_withdraw_31 : decode cX6_withdraw 31 = .ok (.getfield 35, 3) := by decide +kernel
theorem dX6_withdraw_34 : decode cX6_withdraw 34 = .ok (.aload_n 0, 1) := by decide +kernel
theorem dX6_withdraw_35 : decode cX6_withdraw 35 = .ok (.getfield 10, 3) := by decide +kernel
theorem dX6_withdraw_38 : decode cX6_withdraw 38 = .ok (.invokevirtual 80, 3) := by decide +kernel
theorem dX6_withdraw_41 : decode cX6_withdraw 41 = .ok (.aload_n 0, 1) := by decide +kernel
theorem dX6_withdraw_42 : decode cX6_withdraw 42 = .ok (.getfield 10, 3) := by decide +kernel
theorem dX6_withdraw_45 : decode cX6_withdraw 45 = .ok (.iload_n 1, 1) := by decide +kernel
theorem dX6_withdraw_46 : decode cX6_withdraw 46 = .ok (.iload_n 2, 1) := by decide +kernel
theorem dX6_withdraw_47 : decode cX6_withdraw 47 = .ok (.invokevirtual 166, 3) := by decide +kernel
theorem dX6_withdraw_50 : decode cX6_withdraw 50 = .ok (.istore_n 3, 1) := by decide +kernel
theorem dX6_withdraw_51 : decode cX6_withdraw 51 = .ok (.aload_n 0, 1) := by decide +kernel
theorem dX6_withdraw_52 : decode cX6_withdraw 52 = .ok (.getfield 10, 3) := by decide +kernel
theorem dX6_withdraw_55 : decode cX6_withdraw 55 = .ok (.iload_n 1, 1) := by decide +kernel
theorem dX6_withdraw_56 : decode cX6_withdraw 56 = .ok (.iload_n 2, 1) := by decide +kernel
theorem dX6_withdraw_57 : decode cX6_withdraw 57 = .ok (.sipush 1000, 3) := by decide +kernel
theorem dX6_withdraw_60 : decode cX6_withdraw 60 = .ok (.invokevirtual 227, 3) := by decide +kernel
theorem dX6_withdraw_63 : decode cX6_withdraw 63 = .ok (.iload_n 3, 1) := by decide +kernel
theorem dX6_withdraw_64 : decode cX6_withdraw 64 = .ok (.bipush 100, 2) := by decide +kernel
theorem dX6_withdraw_66 : decode cX6_withdraw 66 = .ok (.iadd, 1) := by decide +kernel
theorem dX6_withdraw_67 : decode cX6_withdraw 67 = .ok (.ireturn, 1) := by decide +kernel
theorem dX6_term_0 : decode cX6_term 0 = .ok (.iload_n 1, 1) := by decide +kernel
theorem dX6_term_1 : decode cX6_term 1 = .ok (.ifCond .lt 26, 3) := by decide +kernel
theorem dX6_term_4 : decode cX6_term 4 = .ok (.iload_n 1, 1) := by decide +kernel
theorem dX6_term_5 : decode cX6_term 5 = .ok (.iconst 5, 1) := by decide +kernel
theorem dX6_term_6 : decode cX6_term 6 = .ok (.if_icmp .ge 21, 3) := by decide +kernel
theorem dX6_term_9 : decode cX6_term 9 = .ok (.iload_n 2, 1) := by decide +kernel
theorem dX6_term_10 : decode cX6_term 10 = .ok (.getstatic 232, 3) := by decide +kernel
theorem dX6_term_13 : decode cX6_term 13 = .ok (.iload_n 1, 1) := by decide +kernel
theorem dX6_term_14 : decode cX6_term 14 = .ok (.iaload, 1) := by decide +kernel
theorem dX6_term_15 : decode cX6_term 15 = .ok (.if_icmp .lt 12, 3) := by decide +kernel
theorem dX6_term_18 : decode cX6_term 18 = .ok (.iload_n 2, 1) := by decide +kernel
theorem dX6_term_19 : decode cX6_term 19 = .ok (.getstatic 235, 3) := by decide +kernel
theorem dX6_term_22 : decode cX6_term 22 = .ok (.iload_n 1, 1) := by decide +kernel
theorem dX6_term_23 : decode cX6_term 23 = .ok (.iaload, 1) := by decide +kernel
theorem dX6_term_24 : decode cX6_term 24 = .ok (.if_icmp .le 6, 3) := by decide +kernel
theorem dX6_term_27 : decode cX6_term 27 = .ok (.ldc 65, 2) := by decide +kernel
theorem dX6_term_29 : decode cX6_term 29 = .ok (.ireturn, 1) := by decide +kernel
theorem dX6_term_30 : decode cX6_term 30 = .ok (.aload_n 0, 1) := by decide +kernel
theorem dX6_term_31 : decode cX6_term 31 = .ok (.getfield 35, 3) := by decide +kernel
theorem dX6_term_34 : decode cX6_term 34 = .ok (.aload_n 0, 1) := by decide +kernel
theorem dX6_term_35 : decode cX6_term 35 = .ok (.getfield 10, 3) := by decide +kernel
theorem dX6_term_38 : decode cX6_term 38 = .ok (.invokevirtual 80, 3) := by decide +kernel
theorem dX6_term_41 : decode cX6_term 41 = .ok (.aload_n 0, 1) := by decide +kernel
theorem dX6_term_42 : decode cX6_term 42 = .ok (.getfield 10, 3) := by decide +kernel
theorem dX6_term_45 : decode cX6_term 45 = .ok (.getfield 126, 3) := by decide +kernel
theorem dX6_term_48 : decode cX6_term 48 = .ok (.iload_n 1, 1) := by decide +kernel
theorem dX6_term_49 : decode cX6_term 49 = .ok (.iaload, 1) := by decide +kernel
theorem dX6_term_50 : decode cX6_term 50 = .ok (.istore_n 3, 1) := by decide +kernel
theorem dX6_term_51 : decode cX6_term 51 = .ok (.aload_n 0, 1) := by decide +kernel
theorem dX6_term_52 : decode cX6_term 52 = .ok (.getfield 10, 3) := by decide +kernel
theorem dX6_term_55 : decode cX6_term 55 = .ok (.iload_n 1, 1) := by decide +kernel
theorem dX6_term_56 : decode cX6_term 56 = .ok (.iload_n 2, 1) := by decide +kernel
theorem dX6_term_57 : decode cX6_term 57 = .ok (.invokevirtual 238, 3) := by decide +kernel
theorem dX6_term_60 : decode cX6_term 60 = .ok (.iload_n 3, 1) := by decide +kernel
theorem dX6_term_61 : decode cX6_term 61 = .ok (.ireturn, 1) := by decide +kernel
theorem dX6_drift_0 : decode cX6_drift 0 = .ok (.iload_n 1, 1) := by decide +kernel
theorem dX6_drift_1 : decode cX6_drift 1 = .ok (.iconst 1, 1) := by decide +kernel
theorem dX6_drift_2 : decode cX6_drift 2 = .ok (.if_icmp .lt 9, 3) := by decide +kernel
theorem dX6_drift_5 : decode cX6_drift 5 = .ok (.iload_n 1, 1) := by decide +kernel
theorem dX6_drift_6 : decode cX6_drift 6 = .ok (.bipush 12, 2) := by decide +kernel
theorem dX6_drift_8 : decode cX6_drift 8 = .ok (.if_icmp .le 6, 3) := by decide +kernel
theorem dX6_drift_11 : decode cX6_drift 11 = .ok (.ldc 65, 2) := by decide +kernel
theorem dX6_drift_13 : decode cX6_drift 13 = .ok (.ireturn, 1) := by decide +kernel
theorem dX6_drift_14 : decode cX6_drift 14 = .ok (.iconst 0, 1) := by decide +kernel
theorem dX6_drift_15 : decode cX6_drift 15 = .ok (.istore_n 2, 1) := by decide +kernel
theorem dX6_drift_16 : decode cX6_drift 16 = .ok (.iload_n 2, 1) := by decide +kernel
theorem dX6_drift_17 : decode cX6_drift 17 = .ok (.iload_n 1, 1) := by decide +kernel
theorem dX6_drift_18 : decode cX6_drift 18 = .ok (.if_icmp .ge 24, 3) := by decide +kernel
theorem dX6_drift_21 : decode cX6_drift 21 = .ok (.aload_n 0, 1) := by decide +kernel
theorem dX6_drift_22 : decode cX6_drift 22 = .ok (.getfield 35, 3) := by decide +kernel
theorem dX6_drift_25 : decode cX6_drift 25 = .ok (.aload_n 0, 1) := by decide +kernel
theorem dX6_drift_26 : decode cX6_drift 26 = .ok (.getfield 10, 3) := by decide +kernel
theorem dX6_drift_29 : decode cX6_drift 29 = .ok (.invokevirtual 80, 3) := by decide +kernel
theorem dX6_drift_32 : decode cX6_drift 32 = .ok (.aload_n 0, 1) := by decide +kernel
theorem dX6_drift_33 : decode cX6_drift 33 = .ok (.invokevirtual 241, 3) := by decide +kernel
theorem dX6_drift_36 : decode cX6_drift 36 = .ok (.iinc 2 1, 3) := by decide +kernel
theorem dX6_drift_39 : decode cX6_drift 39 = .ok (.goto (-23), 3) := by decide +kernel
theorem dX6_drift_42 : decode cX6_drift 42 = .ok (.aload_n 0, 1) := by decide +kernel
theorem dX6_drift_43 : decode cX6_drift 43 = .ok (.getfield 10, 3) := by decide +kernel
theorem dX6_drift_46 : decode cX6_drift 46 = .ok (.getfield 98, 3) := by decide +kernel
theorem dX6_drift_49 : decode cX6_drift 49 = .ok (.ireturn, 1) := by decide +kernel
theorem dX6_undo_0 : decode cX6_undo 0 = .ok (.iload_n 1, 1) := by decide +kernel
theorem dX6_undo_1 : decode cX6_undo 1 = .ok (.iconst 1, 1) := by decide +kernel
theorem dX6_undo_2 : decode cX6_undo 2 = .ok (.if_icmp .lt 9, 3) := by decide +kernel
theorem dX6_undo_5 : decode cX6_undo 5 = .ok (.iload_n 1, 1) := by decide +kernel
theorem dX6_undo_6 : decode cX6_undo 6 = .ok (.bipush 16, 2) := by decide +kernel
theorem dX6_undo_8 : decode cX6_undo 8 = .ok (.if_icmp .le 6, 3) := by decide +kernel
theorem dX6_undo_11 : decode cX6_undo 11 = .ok (.ldc 65, 2) := by decide +kernel
theorem dX6_undo_13 : decode cX6_undo 13 = .ok (.ireturn, 1) := by decide +kernel
theorem dX6_undo_14 : decode cX6_undo 14 = .ok (.iload_n 1, 1) := by decide +kernel
theorem dX6_undo_15 : decode cX6_undo 15 = .ok (.aload_n 0, 1) := by decide +kernel
theorem dX6_undo_16 : decode cX6_undo 16 = .ok (.getfield 35, 3) := by decide +kernel
theorem dX6_undo_19 : decode cX6_undo 19 = .ok (.getfield 134, 3) := by decide +kernel
theorem dX6_undo_22 : decode cX6_undo 22 = .ok (.if_icmp .le 6, 3) := by decide +kernel
theorem dX6_undo_25 : decode cX6_undo 25 = .ok (.ldc 231, 2) := by decide +kernel
theorem dX6_undo_27 : decode cX6_undo 27 = .ok (.ireturn, 1) := by decide +kernel
theorem dX6_undo_28 : decode cX6_undo 28 = .ok (.aload_n 0, 1) := by decide +kernel
theorem dX6_undo_29 : decode cX6_undo 29 = .ok (.getfield 35, 3) := by decide +kernel
theorem dX6_undo_32 : decode cX6_undo 32 = .ok (.iload_n 1, 1) := by decide +kernel
theorem dX6_undo_33 : decode cX6_undo 33 = .ok (.aload_n 0, 1) := by decide +kernel
theorem dX6_undo_34 : decode cX6_undo 34 = .ok (.getfield 10, 3) := by decide +kernel
theorem dX6_undo_37 : decode cX6_undo 37 = .ok (.invokevirtual 244, 3) := by decide +kernel
theorem dX6_undo_40 : decode cX6_undo 40 = .ok (.aload_n 0, 1) := by decide +kernel
theorem dX6_undo_41 : decode cX6_undo 41 = .ok (.getfield 10, 3) := by decide +kernel
theorem dX6_undo_44 : decode cX6_undo 44 = .ok (.getfield 98, 3) := by decide +kernel
theorem dX6_undo_47 : decode cX6_undo 47 = .ok (.ireturn, 1) := by decide +kernel
theorem dX6_write_0 : decode cX6_write 0 = .ok (.aload_n 0, 1) := by decide +kernel
theorem dX6_write_1 : decode cX6_write 1 = .ok (.getfield 10, 3) := by decide +kernel
theorem dX6_write_4 : decode cX6_write 4 = .ok (.iload_n 1, 1) := by decide +kernel
theorem dX6_write_5 : decode cX6_write 5 = .ok (.iload_n 2, 1) := by decide +kernel
theorem dX6_write_6 : decode cX6_write 6 = .ok (.invokevirtual 152, 3) := by decide +kernel
theorem dX6_write_9 : decode cX6_write 9 = .ok (.ifCond .ne 6, 3) := by decide +kernel
theorem dX6_write_12 : decode cX6_write 12 = .ok (.ldc 138, 2) := by decide +kernel
theorem dX6_write_14 : decode cX6_write 14 = .ok (.ireturn, 1) := by decide +kernel
theorem dX6_write_15 : decode cX6_write 15 = .ok (.aload_n 0, 1) := by decide +kernel
theorem dX6_write_16 : decode cX6_write 16 = .ok (.getfield 42, 3) := by decide +kernel
theorem dX6_write_19 : decode cX6_write 19 = .ok (.iload_n 1, 1) := by decide +kernel
theorem dX6_write_20 : decode cX6_write 20 = .ok (.iload_n 2, 1) := by decide +kernel
theorem dX6_write_21 : decode cX6_write 21 = .ok (.iload_n 3, 1) := by decide +kernel
theorem dX6_write_22 : decode cX6_write 22 = .ok (.invokevirtual 248, 3) := by decide +kernel
theorem dX6_write_25 : decode cX6_write 25 = .ok (.ifCond .eq 13, 3) := by decide +kernel
theorem dX6_write_28 : decode cX6_write 28 = .ok (.aload_n 0, 1) := by decide +kernel
theorem dX6_write_29 : decode cX6_write 29 = .ok (.getfield 42, 3) := by decide +kernel
theorem dX6_write_32 : decode cX6_write 32 = .ok (.getfield 129, 3) := by decide +kernel
theorem dX6_write_35 : decode cX6_write 35 = .ok (.goto 5, 3) := by decide +kernel
theorem dX6_write_38 : decode cX6_write 38 = .ok (.ldc 73, 2) := by decide +kernel
theorem dX6_write_40 : decode cX6_write 40 = .ok (.ireturn, 1) := by decide +kernel
theorem dX6_tear_0 : decode cX6_tear 0 = .ok (.aload_n 0, 1) := by decide +kernel
theorem dX6_tear_1 : decode cX6_tear 1 = .ok (.getfield 42, 3) := by decide +kernel
theorem dX6_tear_4 : decode cX6_tear 4 = .ok (.getfield 129, 3) := by decide +kernel
theorem dX6_tear_7 : decode cX6_tear 7 = .ok (.istore_n 1, 1) := by decide +kernel
theorem dX6_tear_8 : decode cX6_tear 8 = .ok (.aload_n 0, 1) := by decide +kernel
theorem dX6_tear_9 : decode cX6_tear 9 = .ok (.getfield 42, 3) := by decide +kernel
theorem dX6_tear_12 : decode cX6_tear 12 = .ok (.iconst 0, 1) := by decide +kernel
theorem dX6_tear_13 : decode cX6_tear 13 = .ok (.putfield 129, 3) := by decide +kernel
theorem dX6_tear_16 : decode cX6_tear 16 = .ok (.iload_n 1, 1) := by decide +kernel
theorem dX6_tear_17 : decode cX6_tear 17 = .ok (.ireturn, 1) := by decide +kernel
theorem dX6_seed_0 : decode cX6_seed 0 = .ok (.iload_n 1, 1) := by decide +kernel
theorem dX6_seed_1 : decode cX6_seed 1 = .ok (.ifCond .ge 6, 3) := by decide +kernel
theorem dX6_seed_4 : decode cX6_seed 4 = .ok (.ldc 65, 2) := by decide +kernel
theorem dX6_seed_6 : decode cX6_seed 6 = .ok (.ireturn, 1) := by decide +kernel
theorem dX6_seed_7 : decode cX6_seed 7 = .ok (.aload_n 0, 1) := by decide +kernel
theorem dX6_seed_8 : decode cX6_seed 8 = .ok (.getfield 61, 3) := by decide +kernel
theorem dX6_seed_11 : decode cX6_seed 11 = .ok (.istore_n 2, 1) := by decide +kernel
theorem dX6_seed_12 : decode cX6_seed 12 = .ok (.aload_n 0, 1) := by decide +kernel
theorem dX6_seed_13 : decode cX6_seed 13 = .ok (.iload_n 1, 1) := by decide +kernel
theorem dX6_seed_14 : decode cX6_seed 14 = .ok (.putfield 61, 3) := by decide +kernel
theorem dX6_seed_17 : decode cX6_seed 17 = .ok (.iload_n 2, 1) := by decide +kernel
theorem dX6_seed_18 : decode cX6_seed 18 = .ok (.ireturn, 1) := by decide +kernel
theorem dX6_keep_0 : decode cX6_keep 0 = .ok (.iload_n 1, 1) := by decide +kernel
theorem dX6_keep_1 : decode cX6_keep 1 = .ok (.ifCond .lt 8, 3) := by decide +kernel
theorem dX6_keep_4 : decode cX6_keep 4 = .ok (.iload_n 1, 1) := by decide +kernel
theorem dX6_keep_5 : decode cX6_keep 5 = .ok (.iconst 2, 1) := by decide +kernel
theorem dX6_keep_6 : decode cX6_keep 6 = .ok (.if_icmp .lt 6, 3) := by decide +kernel
theorem dX6_keep_9 : decode cX6_keep 9 = .ok (.ldc 138, 2) := by decide +kernel
theorem dX6_keep_11 : decode cX6_keep 11 = .ok (.ireturn, 1) := by decide +kernel
theorem dX6_keep_12 : decode cX6_keep 12 = .ok (.aload_n 0, 1) := by decide +kernel
theorem dX6_keep_13 : decode cX6_keep 13 = .ok (.getfield 46, 3) := by decide +kernel
theorem dX6_keep_16 : decode cX6_keep 16 = .ok (.iload_n 1, 1) := by decide +kernel
theorem dX6_keep_17 : decode cX6_keep 17 = .ok (.aaload, 1) := by decide +kernel
theorem dX6_keep_18 : decode cX6_keep 18 = .ok (.aload_n 0, 1) := by decide +kernel
theorem dX6_keep_19 : decode cX6_keep 19 = .ok (.getfield 10, 3) := by decide +kernel
theorem dX6_keep_22 : decode cX6_keep 22 = .ok (.invokevirtual 86, 3) := by decide +kernel
theorem dX6_keep_25 : decode cX6_keep 25 = .ok (.aload_n 0, 1) := by decide +kernel
theorem dX6_keep_26 : decode cX6_keep 26 = .ok (.getfield 50, 3) := by decide +kernel
theorem dX6_keep_29 : decode cX6_keep 29 = .ok (.iload_n 1, 1) := by decide +kernel
theorem dX6_keep_30 : decode cX6_keep 30 = .ok (.aload_n 0, 1) := by decide +kernel
theorem dX6_keep_31 : decode cX6_keep 31 = .ok (.getfield 61, 3) := by decide +kernel
theorem dX6_keep_34 : decode cX6_keep 34 = .ok (.iastore, 1) := by decide +kernel
theorem dX6_keep_35 : decode cX6_keep 35 = .ok (.aload_n 0, 1) := by decide +kernel
theorem dX6_keep_36 : decode cX6_keep 36 = .ok (.getfield 54, 3) := by decide +kernel
theorem dX6_keep_39 : decode cX6_keep 39 = .ok (.iload_n 1, 1) := by decide +kernel
theorem dX6_keep_40 : decode cX6_keep 40 = .ok (.iconst 1, 1) := by decide +kernel
theorem dX6_keep_41 : decode cX6_keep 41 = .ok (.bastore, 1) := by decide +kernel
theorem dX6_keep_42 : decode cX6_keep 42 = .ok (.aload_n 0, 1) := by decide +kernel
theorem dX6_keep_43 : decode cX6_keep 43 = .ok (.getfield 35, 3) := by decide +kernel
theorem dX6_keep_46 : decode cX6_keep 46 = .ok (.iconst 0, 1) := by decide +kernel
theorem dX6_keep_47 : decode cX6_keep 47 = .ok (.putfield 134, 3) := by decide +kernel
theorem dX6_keep_50 : decode cX6_keep 50 = .ok (.iconst 1, 1) := by decide +kernel
theorem dX6_keep_51 : decode cX6_keep 51 = .ok (.ireturn, 1) := by decide +kernel
theorem dX6_goBack_0 : decode cX6_goBack 0 = .ok (.iload_n 1, 1) := by decide +kernel
theorem dX6_goBack_1 : decode cX6_goBack 1 = .ok (.ifCond .lt 8, 3) := by decide +kernel
theorem dX6_goBack_4 : decode cX6_goBack 4 = .ok (.iload_n 1, 1) := by decide +kernel
theorem dX6_goBack_5 : decode cX6_goBack 5 = .ok (.iconst 2, 1) := by decide +kernel
theorem dX6_goBack_6 : decode cX6_goBack 6 = .ok (.if_icmp .lt 6, 3) := by decide +kernel
theorem dX6_goBack_9 : decode cX6_goBack 9 = .ok (.ldc 138, 2) := by decide +kernel
theorem dX6_goBack_11 : decode cX6_goBack 11 = .ok (.ireturn, 1) := by decide +kernel
theorem dX6_goBack_12 : decode cX6_goBack 12 = .ok (.aload_n 0, 1) := by decide +kernel
theorem dX6_goBack_13 : decode cX6_goBack 13 = .ok (.getfield 54, 3) := by decide +kernel
theorem dX6_goBack_16 : decode cX6_goBack 16 = .ok (.iload_n 1, 1) := by decide +kernel
theorem dX6_goBack_17 : decode cX6_goBack 17 = .ok (.baload, 1) := by decide +kernel
theorem dX6_goBack_18 : decode cX6_goBack 18 = .ok (.ifCond .ne 6, 3) := by decide +kernel
theorem dX6_goBack_21 : decode cX6_goBack 21 = .ok (.ldc 231, 2) := by decide +kernel
theorem dX6_goBack_23 : decode cX6_goBack 23 = .ok (.ireturn, 1) := by decide +kernel
theorem dX6_goBack_24 : decode cX6_goBack 24 = .ok (.aload_n 0, 1) := by decide +kernel
theorem dX6_goBack_25 : decode cX6_goBack 25 = .ok (.getfield 10, 3) := by decide +kernel
theorem dX6_goBack_28 : decode cX6_goBack 28 = .ok (.aload_n 0, 1) := by decide +kernel
theorem dX6_goBack_29 : decode cX6_goBack 29 = .ok (.getfield 46, 3) := by decide +kernel
theorem dX6_goBack_32 : decode cX6_goBack 32 = .ok (.iload_n 1, 1) := by decide +kernel
theorem dX6_goBack_33 : decode cX6_goBack 33 = .ok (.aaload, 1) := by decide +kernel
theorem dX6_goBack_34 : decode cX6_goBack 34 = .ok (.invokevirtual 86, 3) := by decide +kernel
theorem dX6_goBack_37 : decode cX6_goBack 37 = .ok (.aload_n 0, 1) := by decide +kernel
theorem dX6_goBack_38 : decode cX6_goBack 38 = .ok (.aload_n 0, 1) := by decide +kernel
theorem dX6_goBack_39 : decode cX6_goBack 39 = .ok (.getfield 50, 3) := by decide +kernel
theorem dX6_goBack_42 : decode cX6_goBack 42 = .ok (.iload_n 1, 1) := by decide +kernel
theorem dX6_goBack_43 : decode cX6_goBack 43 = .ok (.iaload, 1) := by decide +kernel
theorem dX6_goBack_44 : decode cX6_goBack 44 = .ok (.putfield 61, 3) := by decide +kernel
theorem dX6_goBack_47 : decode cX6_goBack 47 = .ok (.aload_n 0, 1) := by decide +kernel
theorem dX6_goBack_48 : decode cX6_goBack 48 = .ok (.getfield 35, 3) := by decide +kernel
theorem dX6_goBack_51 : decode cX6_goBack 51 = .ok (.iconst 0, 1) := by decide +kernel
theorem dX6_goBack_52 : decode cX6_goBack 52 = .ok (.putfield 134, 3) := by decide +kernel
theorem dX6_goBack_55 : decode cX6_goBack 55 = .ok (.iconst 1, 1) := by decide +kernel
theorem dX6_goBack_56 : decode cX6_goBack 56 = .ok (.ireturn, 1) := by decide +kernel
theorem dX6_isSide_0 : decode cX6_isSide 0 = .ok (.iload_n 0, 1) := by decide +kernel
theorem dX6_isSide_1 : decode cX6_isSide 1 = .ok (.ifCond .eq 8, 3) := by decide +kernel
theorem dX6_isSide_4 : decode cX6_isSide 4 = .ok (.iload_n 0, 1) := by decide +kernel
theorem dX6_isSide_5 : decode cX6_isSide 5 = .ok (.iconst 1, 1) := by decide +kernel
theorem dX6_isSide_6 : decode cX6_isSide 6 = .ok (.if_icmp .ne 7, 3) := by decide +kernel
theorem dX6_isSide_9 : decode cX6_isSide 9 = .ok (.iconst 1, 1) := by decide +kernel
theorem dX6_isSide_10 : decode cX6_isSide 10 = .ok (.goto 4, 3) := by decide +kernel
theorem dX6_isSide_13 : decode cX6_isSide 13 = .ok (.iconst 0, 1) := by decide +kernel
theorem dX6_isSide_14 : decode cX6_isSide 14 = .ok (.ireturn, 1) := by decide +kernel
theorem dX6_isEdge_0 : decode cX6_isEdge 0 = .ok (.iload_n 0, 1) := by decide +kernel
theorem dX6_isEdge_1 : decode cX6_isEdge 1 = .ok (.ifCond .lt 13, 3) := by decide +kernel
theorem dX6_isEdge_4 : decode cX6_isEdge 4 = .ok (.iload_n 0, 1) := by decide +kernel
theorem dX6_isEdge_5 : decode cX6_isEdge 5 = .ok (.ldc 252, 2) := by decide +kernel
theorem dX6_isEdge_7 : decode cX6_isEdge 7 = .ok (.if_icmp .gt 7, 3) := by decide +kernel
theorem dX6_isEdge_10 : decode cX6_isEdge 10 = .ok (.iconst 1, 1) := by decide +kernel
theorem dX6_isEdge_11 : decode cX6_isEdge 11 = .ok (.goto 4, 3) := by decide +kernel
theorem dX6_isEdge_14 : decode cX6_isEdge 14 = .ok (.iconst 0, 1) := by decide +kernel
theorem dX6_isEdge_15 : decode cX6_isEdge 15 = .ok (.ireturn, 1) := by decide +kernel
theorem dX6_driftOnce_0 : decode cX6_driftOnce 0 = .ok (.aload_n 0, 1) := by decide +kernel
theorem dX6_driftOnce_1 : decode cX6_driftOnce 1 = .ok (.bipush 8, 2) := by decide +kernel
theorem dX6_driftOnce_3 : decode cX6_driftOnce 3 = .ok (.invokevirtual 253, 3) := by decide +kernel
theorem dX6_driftOnce_6 : decode cX6_driftOnce 6 = .ok (.istore_n 1, 1) := by decide +kernel
theorem dX6_driftOnce_7 : decode cX6_driftOnce 7 = .ok (.aload_n 0, 1) := by decide +kernel
theorem dX6_driftOnce_8 : decode cX6_driftOnce 8 = .ok (.getfield 10, 3) := by decide +kernel
theorem dX6_driftOnce_11 : decode cX6_driftOnce 11 = .ok (.iload_n 1, 1) := by decide +kernel
theorem dX6_driftOnce_12 : decode cX6_driftOnce 12 = .ok (.invokevirtual 135, 3) := by decide +kernel
theorem dX6_driftOnce_15 : decode cX6_driftOnce 15 = .ok (.ifCond .ne 32, 3) := by decide +kernel
theorem dX6_driftOnce_18 : decode cX6_driftOnce 18 = .ok (.aload_n 0, 1) := by decide +kernel
theorem dX6_driftOnce_19 : decode cX6_driftOnce 19 = .ok (.invokevirtual 257, 3) := by decide +kernel
theorem dX6_driftOnce_22 : decode cX6_driftOnce 22 = .ok (.istore_n 2, 1) := by decide +kernel
theorem dX6_driftOnce_23 : decode cX6_driftOnce 23 = .ok (.aload_n 0, 1) := by decide +kernel
theorem dX6_driftOnce_24 : decode cX6_driftOnce 24 = .ok (.invokevirtual 257, 3) := by decide +kernel
theorem dX6_driftOnce_27 : decode cX6_driftOnce 27 = .ok (.istore_n 3, 1) := by decide +kernel
theorem dX6_driftOnce_28 : decode cX6_driftOnce 28 = .ok (.aload_n 0, 1) := by decide +kernel
theorem dX6_driftOnce_29 : decode cX6_driftOnce 29 = .ok (.getfield 10, 3) := by decide +kernel
theorem dX6_driftOnce_32 : decode cX6_driftOnce 32 = .ok (.iload_n 1, 1) := by decide +kernel
theorem dX6_driftOnce_33 : decode cX6_driftOnce 33 = .ok (.iload_n 2, 1) := by decide +kernel
theorem dX6_driftOnce_34 : decode cX6_driftOnce 34 = .ok (.iload_n 3, 1) := by decide +kernel
theorem dX6_driftOnce_35 : decode cX6_driftOnce 35 = .ok (.aload_n 0, 1) := by decide +kernel
theorem dX6_driftOnce_36 : decode cX6_driftOnce 36 = .ok (.bipush 9, 2) := by decide +kernel
theorem dX6_driftOnce_38 : decode cX6_driftOnce 38 = .ok (.invokevirtual 253, 3) := by decide +kernel
theorem dX6_driftOnce_41 : decode cX6_driftOnce 41 = .ok (.iconst 1, 1) := by decide +kernel
theorem dX6_driftOnce_42 : decode cX6_driftOnce 42 = .ok (.iadd, 1) := by decide +kernel
theorem dX6_driftOnce_43 : decode cX6_driftOnce 43 = .ok (.invokevirtual 216, 3) := by decide +kernel
theorem dX6_driftOnce_46 : decode cX6_driftOnce 46 = .ok (.return_, 1) := by decide +kernel
theorem dX6_driftOnce_47 : decode cX6_driftOnce 47 = .ok (.aload_n 0, 1) := by decide +kernel
theorem dX6_driftOnce_48 : decode cX6_driftOnce 48 = .ok (.bipush 8, 2) := by decide +kernel
theorem dX6_driftOnce_50 : decode cX6_driftOnce 50 = .ok (.invokevirtual 253, 3) := by decide +kernel
theorem dX6_driftOnce_53 : decode cX6_driftOnce 53 = .ok (.istore_n 2, 1) := by decide +kernel
theorem dX6_driftOnce_54 : decode cX6_driftOnce 54 = .ok (.aload_n 0, 1) := by decide +kernel
theorem dX6_driftOnce_55 : decode cX6_driftOnce 55 = .ok (.bipush 9, 2) := by decide +kernel
theorem dX6_driftOnce_57 : decode cX6_driftOnce 57 = .ok (.invokevirtual 253, 3) := by decide +kernel
theorem dX6_driftOnce_60 : decode cX6_driftOnce 60 = .ok (.iconst 4, 1) := by decide +kernel
theorem dX6_driftOnce_61 : decode cX6_driftOnce 61 = .ok (.isub, 1) := by decide +kernel
theorem dX6_driftOnce_62 : decode cX6_driftOnce 62 = .ok (.istore_n 3, 1) := by decide +kernel
theorem dX6_driftOnce_63 : decode cX6_driftOnce 63 = .ok (.aload_n 0, 1) := by decide +kernel
theorem dX6_driftOnce_64 : decode cX6_driftOnce 64 = .ok (.getfield 10, 3) := by decide +kernel
theorem dX6_driftOnce_67 : decode cX6_driftOnce 67 = .ok (.iload_n 2, 1) := by decide +kernel
theorem dX6_driftOnce_68 : decode cX6_driftOnce 68 = .ok (.invokevirtual 135, 3) := by decide +kernel
theorem dX6_driftOnce_71 : decode cX6_driftOnce 71 = .ok (.ifCond .eq 13, 3) := by decide +kernel
theorem dX6_driftOnce_74 : decode cX6_driftOnce 74 = .ok (.aload_n 0, 1) := by decide +kernel
theorem dX6_driftOnce_75 : decode cX6_driftOnce 75 = .ok (.getfield 10, 3) := by decide +kernel
theorem dX6_driftOnce_78 : decode cX6_driftOnce 78 = .ok (.iload_n 1, 1) := by decide +kernel
theorem dX6_driftOnce_79 : decode cX6_driftOnce 79 = .ok (.iload_n 2, 1) := by decide +kernel
theorem dX6_driftOnce_80 : decode cX6_driftOnce 80 = .ok (.iload_n 3, 1) := by decide +kernel
theorem dX6_driftOnce_81 : decode cX6_driftOnce 81 = .ok (.invokevirtual 227, 3) := by decide +kernel
theorem dX6_driftOnce_84 : decode cX6_driftOnce 84 = .ok (.return_, 1) := by decide +kernel
theorem dX6_drawEdge_0 : decode cX6_drawEdge 0 = .ok (.iconst 0, 1) := by decide +kernel
theorem dX6_drawEdge_1 : decode cX6_drawEdge 1 = .ok (.istore_n 1, 1) := by decide +kernel
theorem dX6_drawEdge_2 : decode cX6_drawEdge 2 = .ok (.iconst 0, 1) := by decide +kernel
theorem dX6_drawEdge_3 : decode cX6_drawEdge 3 = .ok (.istore_n 2, 1) := by decide +kernel
theorem dX6_drawEdge_4 : decode cX6_drawEdge 4 = .ok (.iload_n 2, 1) := by decide +kernel
theorem dX6_drawEdge_5 : decode cX6_drawEdge 5 = .ok (.iconst 5, 1) := by decide +kernel
theorem dX6_drawEdge_6 : decode cX6_drawEdge 6 = .ok (.if_icmp .ge 20, 3) := by decide +kernel
theorem dX6_drawEdge_9 : decode cX6_drawEdge 9 = .ok (.bipush 10, 2) := by decide +kernel
theorem dX6_drawEdge_11 : decode cX6_drawEdge 11 = .ok (.iload_n 1, 1) := by decide +kernel
theorem dX6_drawEdge_12 : decode cX6_drawEdge 12 = .ok (.imul, 1) := by decide +kernel
theorem dX6_drawEdge_13 : decode cX6_drawEdge 13 = .ok (.aload_n 0, 1) := by decide +kernel
theorem dX6_drawEdge_14 : decode cX6_drawEdge 14 = .ok (.iconst 5, 1) := by decide +kernel
theorem dX6_drawEdge_15 : decode cX6_drawEdge 15 = .ok (.invokevirtual 253, 3) := by decide +kernel
theorem dX6_drawEdge_18 : decode cX6_drawEdge 18 = .ok (.iadd, 1) := by decide +kernel
theorem dX6_drawEdge_19 : decode cX6_drawEdge 19 = .ok (.istore_n 1, 1) := by decide +kernel
theorem dX6_drawEdge_20 : decode cX6_drawEdge 20 = .ok (.iinc 2 1, 3) := by decide +kernel
theorem dX6_drawEdge_23 : decode cX6_drawEdge 23 = .ok (.goto (-19), 3) := by decide +kernel
theorem dX6_drawEdge_26 : decode cX6_drawEdge 26 = .ok (.iload_n 1, 1) := by decide +kernel
theorem dX6_drawEdge_27 : decode cX6_drawEdge 27 = .ok (.ireturn, 1) := by decide +kernel
theorem dX6_draw_0 : decode cX6_draw 0 = .ok (.aload_n 0, 1) := by decide +kernel
theorem dX6_draw_1 : decode cX6_draw 1 = .ok (.aload_n 0, 1) := by decide +kernel
theorem dX6_draw_2 : decode cX6_draw 2 = .ok (.getfield 61, 3) := by decide +kernel
theorem dX6_draw_5 : decode cX6_draw 5 = .ok (.ldc_w 260, 3) := by decide +kernel
theorem dX6_draw_8 : decode cX6_draw 8 = .ok (.imul, 1) := by decide +kernel
theorem dX6_draw_9 : decode cX6_draw 9 = .ok (.sipush 12345, 3) := by decide +kernel
theorem dX6_draw_12 : decode cX6_draw 12 = .ok (.iadd, 1) := by decide +kernel
theorem dX6_draw_13 : decode cX6_draw 13 = .ok (.ldc_w 261, 3) := by decide +kernel
theorem dX6_draw_16 : decode cX6_draw 16 = .ok (.iand, 1) := by decide +kernel
theorem dX6_draw_17 : decode cX6_draw 17 = .ok (.putfield 61, 3) := by decide +kernel
theorem dX6_draw_20 : decode cX6_draw 20 = .ok (.iload_n 1, 1) := by decide +kernel
theorem dX6_draw_21 : decode cX6_draw 21 = .ok (.ifCond .le 16, 3) := by decide +kernel
theorem dX6_draw_24 : decode cX6_draw 24 = .ok (.aload_n 0, 1) := by decide +kernel
theorem dX6_draw_25 : decode cX6_draw 25 = .ok (.getfield 61, 3) := by decide +kernel
theorem dX6_draw_28 : decode cX6_draw 28 = .ok (.ldc_w 262, 3) := by decide +kernel
theorem dX6_draw_31 : decode cX6_draw 31 = .ok (.idiv, 1) := by decide +kernel
theorem dX6_draw_32 : decode cX6_draw 32 = .ok (.iload_n 1, 1) := by decide +kernel
theorem dX6_draw_33 : decode cX6_draw 33 = .ok (.irem, 1) := by decide +kernel
theorem dX6_draw_34 : decode cX6_draw 34 = .ok (.goto 4, 3) := by decide +kernel
theorem dX6_draw_37 : decode cX6_draw 37 = .ok (.iconst 0, 1) := by decide +kernel
theorem dX6_draw_38 : decode cX6_draw 38 = .ok (.ireturn, 1) := by decide +kernel
