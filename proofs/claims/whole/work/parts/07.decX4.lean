theorem dX4_init_0 : decode cX4_init 0 = .ok (.aload_n 0, 1) := by decide +kernel
theorem dX4_init_1 : decode cX4_init 1 = .ok (.invokespecial 3, 3) := by decide +kernel
theorem dX4_init_4 : decode cX4_init 4 = .ok (.aload_n 0, 1) := by decide +kernel
theorem dX4_init_5 : decode cX4_init 5 = .ok (.new 9, 3) := by decide +kernel
theorem dX4_init_8 : decode cX4_init 8 = .ok (.dup, 1) := by decide +kernel
theorem dX4_init_9 : decode cX4_init 9 = .ok (.invokespecial 11, 3) := by decide +kernel
theorem dX4_init_12 : decode cX4_init 12 = .ok (.putfield 12, 3) := by decide +kernel
theorem dX4_init_15 : decode cX4_init 15 = .ok (.aload_n 0, 1) := by decide +kernel
theorem dX4_init_16 : decode cX4_init 16 = .ok (.new 9, 3) := by decide +kernel
theorem dX4_init_19 : decode cX4_init 19 = .ok (.dup, 1) := by decide +kernel
theorem dX4_init_20 : decode cX4_init 20 = .ok (.invokespecial 11, 3) := by decide +kernel
theorem dX4_init_23 : decode cX4_init 23 = .ok (.putfield 18, 3) := by decide +kernel
theorem dX4_init_26 : decode cX4_init 26 = .ok (.aload_n 0, 1) := by decide +kernel
theorem dX4_init_27 : decode cX4_init 27 = .ok (.iconst (-1), 1) := by decide +kernel
theorem dX4_init_28 : decode cX4_init 28 = .ok (.putfield 21, 3) := by decide +kernel
theorem dX4_init_31 : decode cX4_init 31 = .ok (.aload_n 0, 1) := by decide +kernel
theorem dX4_init_32 : decode cX4_init 32 = .ok (.iconst 0, 1) := by decide +kernel
theorem dX4_init_33 : decode cX4_init 33 = .ok (.putfield 25, 3) := by decide +kernel
theorem dX4_init_36 : decode cX4_init 36 = .ok (.aload_n 0, 1) := by decide +kernel
theorem dX4_init_37 : decode cX4_init 37 = .ok (.iconst 0, 1) := by decide +kernel
theorem dX4_init_38 : decode cX4_init 38 = .ok (.putfield 28, 3) := by decide +kernel
theorem dX4_init_41 : decode cX4_init 41 = .ok (.aload_n 0, 1) := by decide +kernel
theorem dX4_init_42 : decode cX4_init 42 = .ok (.iconst 0, 1) := by decide +kernel
theorem dX4_init_43 : decode cX4_init 43 = .ok (.putfield 31, 3) := by decide +kernel
theorem dX4_init_46 : decode cX4_init 46 = .ok (.aload_n 0, 1) := by decide +kernel
theorem dX4_init_47 : decode cX4_init 47 = .ok (.iconst 0, 1) := by decide +kernel
theorem dX4_init_48 : decode cX4_init 48 = .ok (.putfield 34, 3) := by decide +kernel
theorem dX4_init_51 : decode cX4_init 51 = .ok (.aload_n 0, 1) := by decide +kernel
theorem dX4_init_52 : decode cX4_init 52 = .ok (.iconst 0, 1) := by decide +kernel
theorem dX4_init_53 : decode cX4_init 53 = .ok (.putfield 37, 3) := by decide +kernel
theorem dX4_init_56 : decode cX4_init 56 = .ok (.aload_n 0, 1) := by decide +kernel
theorem dX4_init_57 : decode cX4_init 57 = .ok (.iconst 0, 1) := by decide +kernel
theorem dX4_init_58 : decode cX4_init 58 = .ok (.putfield 40, 3) := by decide +kernel
theorem dX4_init_61 : decode cX4_init 61 = .ok (.aload_n 0, 1) := by decide +kernel
theorem dX4_init_62 : decode cX4_init 62 = .ok (.iconst 0, 1) := by decide +kernel
theorem dX4_init_63 : decode cX4_init 63 = .ok (.putfield 43, 3) := by decide +kernel
theorem dX4_init_66 : decode cX4_init 66 = .ok (.aload_n 0, 1) := by decide +kernel
theorem dX4_init_67 : decode cX4_init 67 = .ok (.bipush 41, 2) := by decide +kernel
theorem dX4_init_69 : decode cX4_init 69 = .ok (.newarray .int, 2) := by decide +kernel
theorem dX4_init_71 : decode cX4_init 71 = .ok (.putfield 46, 3) := by decide +kernel
theorem dX4_init_74 : decode cX4_init 74 = .ok (.aload_n 0, 1) := by decide +kernel
theorem dX4_init_75 : decode cX4_init 75 = .ok (.aload_n 1, 1) := by decide +kernel
theorem dX4_init_76 : decode cX4_init 76 = .ok (.putfield 50, 3) := by decide +kernel
theorem dX4_init_79 : decode cX4_init 79 = .ok (.return_, 1) := by decide +kernel
theorem dX4_settle_0 : decode cX4_settle 0 = .ok (.aload_n 0, 1) := by decide +kernel
theorem dX4_settle_1 : decode cX4_settle 1 = .ok (.getfield 21, 3) := by decide +kernel
theorem dX4_settle_4 : decode cX4_settle 4 = .ok (.aload_n 0, 1) := by decide +kernel
theorem dX4_settle_5 : decode cX4_settle 5 = .ok (.getfield 50, 3) := by decide +kernel
theorem dX4_settle_8 : decode cX4_settle 8 = .ok (.getfield 54, 3) := by decide +kernel
theorem dX4_settle_11 : decode cX4_settle 11 = .ok (.if_icmp .eq 38, 3) := by decide +kernel
theorem dX4_settle_14 : decode cX4_settle 14 = .ok (.aload_n 0, 1) := by decide +kernel
theorem dX4_settle_15 : decode cX4_settle 15 = .ok (.getfield 12, 3) := by decide +kernel
theorem dX4_settle_18 : decode cX4_settle 18 = .ok (.aload_n 0, 1) := by decide +kernel
theorem dX4_settle_19 : decode cX4_settle 19 = .ok (.getfield 50, 3) := by decide +kernel
theorem dX4_settle_22 : decode cX4_settle 22 = .ok (.iconst 0, 1) := by decide +kernel
theorem dX4_settle_23 : decode cX4_settle 23 = .ok (.invokevirtual 59, 3) := by decide +kernel
theorem dX4_settle_26 : decode cX4_settle 26 = .ok (.aload_n 0, 1) := by decide +kernel
theorem dX4_settle_27 : decode cX4_settle 27 = .ok (.getfield 18, 3) := by decide +kernel
theorem dX4_settle_30 : decode cX4_settle 30 = .ok (.aload_n 0, 1) := by decide +kernel
theorem dX4_settle_31 : decode cX4_settle 31 = .ok (.getfield 50, 3) := by decide +kernel
theorem dX4_settle_34 : decode cX4_settle 34 = .ok (.iconst 1, 1) := by decide +kernel
theorem dX4_settle_35 : decode cX4_settle 35 = .ok (.invokevirtual 59, 3) := by decide +kernel
theorem dX4_settle_38 : decode cX4_settle 38 = .ok (.aload_n 0, 1) := by decide +kernel
theorem dX4_settle_39 : decode cX4_settle 39 = .ok (.aload_n 0, 1) := by decide +kernel
theorem dX4_settle_40 : decode cX4_settle 40 = .ok (.getfield 50, 3) := by decide +kernel
theorem dX4_settle_43 : decode cX4_settle 43 = .ok (.getfield 54, 3) := by decide +kernel
theorem dX4_settle_46 : decode cX4_settle 46 = .ok (.putfield 21, 3) := by decide +kernel
theorem dX4_settle_49 : decode cX4_settle 49 = .ok (.return_, 1) := by decide +kernel
theorem dX4_survey_0 : decode cX4_survey 0 = .ok (.aload_n 0, 1) := by decide +kernel
theorem dX4_survey_1 : decode cX4_survey 1 = .ok (.iload_n 1, 1) := by decide +kernel
theorem dX4_survey_2 : decode cX4_survey 2 = .ok (.putfield 25, 3) := by decide +kernel
theorem dX4_survey_5 : decode cX4_survey 5 = .ok (.aload_n 0, 1) := by decide +kernel
theorem dX4_survey_6 : decode cX4_survey 6 = .ok (.iload_n 2, 1) := by decide +kernel
theorem dX4_survey_7 : decode cX4_survey 7 = .ok (.putfield 28, 3) := by decide +kernel
theorem dX4_survey_10 : decode cX4_survey 10 = .ok (.aload_n 0, 1) := by decide +kernel
theorem dX4_survey_11 : decode cX4_survey 11 = .ok (.iconst 0, 1) := by decide +kernel
theorem dX4_survey_12 : decode cX4_survey 12 = .ok (.putfield 31, 3) := by decide +kernel
theorem dX4_survey_15 : decode cX4_survey 15 = .ok (.aload_n 0, 1) := by decide +kernel
theorem dX4_survey_16 : decode cX4_survey 16 = .ok (.iconst 0, 1) := by decide +kernel
theorem dX4_survey_17 : decode cX4_survey 17 = .ok (.putfield 34, 3) := by decide +kernel
theorem dX4_survey_20 : decode cX4_survey 20 = .ok (.iconst 0, 1) := by decide +kernel
theorem dX4_survey_21 : decode cX4_survey 21 = .ok (.istore_n 3, 1) := by decide +kernel
theorem dX4_survey_22 : decode cX4_survey 22 = .ok (.iload_n 3, 1) := by decide +kernel
theorem dX4_survey_23 : decode cX4_survey 23 = .ok (.aload_n 0, 1) := by decide +kernel
theorem dX4_survey_24 : decode cX4_survey 24 = .ok (.getfield 46, 3) := by decide +kernel
theorem dX4_survey_27 : decode cX4_survey 27 = .ok (.arraylength, 1) := by decide +kernel
theorem dX4_survey_28 : decode cX4_survey 28 = .ok (.if_icmp .ge 16, 3) := by decide +kernel
theorem dX4_survey_31 : decode cX4_survey 31 = .ok (.aload_n 0, 1) := by decide +kernel
theorem dX4_survey_32 : decode cX4_survey 32 = .ok (.getfield 46, 3) := by decide +kernel
theorem dX4_survey_35 : decode cX4_survey 35 = .ok (.iload_n 3, 1) := by decide +kernel
theorem dX4_survey_36 : decode cX4_survey 36 = .ok (.iconst 0, 1) := by decide +kernel
theorem dX4_survey_37 : decode cX4_survey 37 = .ok (.iastore, 1) := by decide +kernel
theorem dX4_survey_38 : decode cX4_survey 38 = .ok (.iinc 3 1, 3) := by decide +kernel
theorem dX4_survey_41 : decode cX4_survey 41 = .ok (.goto (-19), 3) := by decide +kernel
theorem dX4_survey_44 : decode cX4_survey 44 = .ok (.iconst 0, 1) := by decide +kernel
theorem dX4_survey_45 : decode cX4_survey 45 = .ok (.istore_n 3, 1) := by decide +kernel
theorem dX4_survey_46 : decode cX4_survey 46 = .ok (.iload_n 3, 1) := by decide +kernel
theorem dX4_survey_47 : decode cX4_survey 47 = .ok (.bipush 8, 2) := by decide +kernel
theorem dX4_survey_49 : decode cX4_survey 49 = .ok (.if_icmp .ge 90, 3) := by decide +kernel
theorem dX4_survey_52 : decode cX4_survey 52 = .ok (.iconst 0, 1) := by decide +kernel
theorem dX4_survey_53 : decode cX4_survey 53 = .ok (.istore 4, 2) := by decide +kernel
theorem dX4_survey_55 : decode cX4_survey 55 = .ok (.iload 4, 2) := by decide +kernel
theorem dX4_survey_57 : decode cX4_survey 57 = .ok (.bipush 8, 2) := by decide +kernel
theorem dX4_survey_59 : decode cX4_survey 59 = .ok (.if_icmp .ge 74, 3) := by decide +kernel
theorem dX4_survey_62 : decode cX4_survey 62 = .ok (.aload_n 0, 1) := by decide +kernel
theorem dX4_survey_63 : decode cX4_survey 63 = .ok (.iload_n 3, 1) := by decide +kernel
theorem dX4_survey_64 : decode cX4_survey 64 = .ok (.iload 4, 2) := by decide +kernel
theorem dX4_survey_66 : decode cX4_survey 66 = .ok (.invokevirtual 63, 3) := by decide +kernel
theorem dX4_survey_69 : decode cX4_survey 69 = .ok (.ifCond .eq 58, 3) := by decide +kernel
theorem dX4_survey_72 : decode cX4_survey 72 = .ok (.aload_n 0, 1) := by decide +kernel
theorem dX4_survey_73 : decode cX4_survey 73 = .ok (.dup, 1) := by decide +kernel
theorem dX4_survey_74 : decode cX4_survey 74 = .ok (.getfield 31, 3) := by decide +kernel
theorem dX4_survey_77 : decode cX4_survey 77 = .ok (.iconst 1, 1) := by decide +kernel
theorem dX4_survey_78 : decode cX4_survey 78 = .ok (.iadd, 1) := by decide +kernel
theorem dX4_survey_79 : decode cX4_survey 79 = .ok (.putfield 31, 3) := by decide +kernel
theorem dX4_survey_82 : decode cX4_survey 82 = .ok (.aload_n 0, 1) := by decide +kernel
theorem dX4_survey_83 : decode cX4_survey 83 = .ok (.getfield 50, 3) := by decide +kernel
theorem dX4_survey_86 : decode cX4_survey 86 = .ok (.iload_n 3, 1) := by decide +kernel
theorem dX4_survey_87 : decode cX4_survey 87 = .ok (.iload 4, 2) := by decide +kernel
theorem dX4_survey_89 : decode cX4_survey 89 = .ok (.invokevirtual 67, 3) := by decide +kernel
theorem dX4_survey_92 : decode cX4_survey 92 = .ok (.ifCond .eq 35, 3) := by decide +kernel
theorem dX4_survey_95 : decode cX4_survey 95 = .ok (.aload_n 0, 1) := by decide +kernel
theorem dX4_survey_96 : decode cX4_survey 96 = .ok (.dup, 1) := by decide +kernel
theorem dX4_survey_97 : decode cX4_survey 97 = .ok (.getfield 34, 3) := by decide +kernel
theorem dX4_survey_100 : decode cX4_survey 100 = .ok (.iconst 1, 1) := by decide +kernel
theorem dX4_survey_101 : decode cX4_survey 101 = .ok (.iadd, 1) := by decide +kernel
theorem dX4_survey_102 : decode cX4_survey 102 = .ok (.putfield 34, 3) := by decide +kernel
theorem dX4_survey_105 : decode cX4_survey 105 = .ok (.aload_n 0, 1) := by decide +kernel
theorem dX4_survey_106 : decode cX4_survey 106 = .ok (.getfield 46, 3) := by decide +kernel
theorem dX4_survey_109 : decode cX4_survey 109 = .ok (.aload_n 0, 1) := by decide +kernel
theorem dX4_survey_110 : decode cX4_survey 110 = .ok (.getfield 50, 3) := by decide +kernel
theorem dX4_survey_113 : decode cX4_survey 113 = .ok (.iload_n 3, 1) := by decide +kernel
theorem dX4_survey_114 : decode cX4_survey 114 = .ok (.iload 4, 2) := by decide +kernel
theorem dX4_survey_116 : decode cX4_survey 116 = .ok (.invokevirtual 70, 3) := by decide +kernel
theorem dX4_survey_119 : decode cX4_survey 119 = .ok (.bipush 20, 2) := by decide +kernel
theorem dX4_survey_121 : decode cX4_survey 121 = .ok (.iadd, 1) := by decide +kernel
theorem dX4_survey_122 : decode cX4_survey 122 = .ok (.dup2, 1) := by decide +kernel
theorem dX4_survey_123 : decode cX4_survey 123 = .ok (.iaload, 1) := by decide +kernel
theorem dX4_survey_124 : decode cX4_survey 124 = .ok (.iconst 1, 1) := by decide +kernel
theorem dX4_survey_125 : decode cX4_survey 125 = .ok (.iadd, 1) := by decide +kernel
theorem dX4_survey_126 : decode cX4_survey 126 = .ok (.iastore, 1) := by decide +kernel
theorem dX4_survey_127 : decode cX4_survey 127 = .ok (.iinc 4 1, 3) := by decide +kernel
theorem dX4_survey_130 : decode cX4_survey 130 = .ok (.goto (-75), 3) := by decide +kernel
theorem dX4_survey_133 : decode cX4_survey 133 = .ok (.iinc 3 1, 3) := by decide +kernel
theorem dX4_survey_136 : decode cX4_survey 136 = .ok (.goto (-90), 3) := by decide +kernel
theorem dX4_survey_139 : decode cX4_survey 139 = .ok (.aload_n 0, 1) := by decide +kernel
theorem dX4_survey_140 : decode cX4_survey 140 = .ok (.invokevirtual 74, 3) := by decide +kernel
theorem dX4_survey_143 : decode cX4_survey 143 = .ok (.return_, 1) := by decide +kernel
theorem dX4_inCell_0 : decode cX4_inCell 0 = .ok (.aload_n 0, 1) := by decide +kernel
theorem dX4_inCell_1 : decode cX4_inCell 1 = .ok (.getfield 18, 3) := by decide +kernel
theorem dX4_inCell_4 : decode cX4_inCell 4 = .ok (.getfield 77, 3) := by decide +kernel
theorem dX4_inCell_7 : decode cX4_inCell 7 = .ok (.iload_n 1, 1) := by decide +kernel
theorem dX4_inCell_8 : decode cX4_inCell 8 = .ok (.iaload, 1) := by decide +kernel
theorem dX4_inCell_9 : decode cX4_inCell 9 = .ok (.aload_n 0, 1) := by decide +kernel
theorem dX4_inCell_10 : decode cX4_inCell 10 = .ok (.getfield 25, 3) := by decide +kernel
theorem dX4_inCell_13 : decode cX4_inCell 13 = .ok (.if_icmp .ne 23, 3) := by decide +kernel
theorem dX4_inCell_16 : decode cX4_inCell 16 = .ok (.aload_n 0, 1) := by decide +kernel
theorem dX4_inCell_17 : decode cX4_inCell 17 = .ok (.getfield 12, 3) := by decide +kernel
theorem dX4_inCell_20 : decode cX4_inCell 20 = .ok (.getfield 77, 3) := by decide +kernel
theorem dX4_inCell_23 : decode cX4_inCell 23 = .ok (.iload_n 2, 1) := by decide +kernel
theorem dX4_inCell_24 : decode cX4_inCell 24 = .ok (.iaload, 1) := by decide +kernel
theorem dX4_inCell_25 : decode cX4_inCell 25 = .ok (.aload_n 0, 1) := by decide +kernel
theorem dX4_inCell_26 : decode cX4_inCell 26 = .ok (.getfield 28, 3) := by decide +kernel
theorem dX4_inCell_29 : decode cX4_inCell 29 = .ok (.if_icmp .ne 7, 3) := by decide +kernel
theorem dX4_inCell_32 : decode cX4_inCell 32 = .ok (.iconst 1, 1) := by decide +kernel
theorem dX4_inCell_33 : decode cX4_inCell 33 = .ok (.goto 4, 3) := by decide +kernel
theorem dX4_inCell_36 : decode cX4_inCell 36 = .ok (.iconst 0, 1) := by decide +kernel
theorem dX4_inCell_37 : decode cX4_inCell 37 = .ok (.ireturn, 1) := by decide +kernel
theorem dX4_chooseKept_0 : decode cX4_chooseKept 0 = .ok (.aload_n 0, 1) := by decide +kernel
theorem dX4_chooseKept_1 : decode cX4_chooseKept 1 = .ok (.iconst 0, 1) := by decide +kernel
theorem dX4_chooseKept_2 : decode cX4_chooseKept 2 = .ok (.putfield 37, 3) := by decide +kernel
theorem dX4_chooseKept_5 : decode cX4_chooseKept 5 = .ok (.aload_n 0, 1) := by decide +kernel
theorem dX4_chooseKept_6 : decode cX4_chooseKept 6 = .ok (.iconst 0, 1) := by decide +kernel
theorem dX4_chooseKept_7 : decode cX4_chooseKept 7 = .ok (.putfield 40, 3) := by decide +kernel
theorem dX4_chooseKept_10 : decode cX4_chooseKept 10 = .ok (.aload_n 0, 1) := by decide +kernel
theorem dX4_chooseKept_11 : decode cX4_chooseKept 11 = .ok (.iconst 0, 1) := by decide +kernel
theorem dX4_chooseKept_12 : decode cX4_chooseKept 12 = .ok (.putfield 43, 3) := by decide +kernel
theorem dX4_chooseKept_15 : decode cX4_chooseKept 15 = .ok (.bipush (-20), 2) := by decide +kernel
theorem dX4_chooseKept_17 : decode cX4_chooseKept 17 = .ok (.istore_n 1, 1) := by decide +kernel
theorem dX4_chooseKept_18 : decode cX4_chooseKept 18 = .ok (.iload_n 1, 1) := by decide +kernel
theorem dX4_chooseKept_19 : decode cX4_chooseKept 19 = .ok (.bipush 20, 2) := by decide +kernel
theorem dX4_chooseKept_21 : decode cX4_chooseKept 21 = .ok (.if_icmp .gt 26, 3) := by decide +kernel
theorem dX4_chooseKept_24 : decode cX4_chooseKept 24 = .ok (.aload_n 0, 1) := by decide +kernel
theorem dX4_chooseKept_25 : decode cX4_chooseKept 25 = .ok (.getfield 46, 3) := by decide +kernel
theorem dX4_chooseKept_28 : decode cX4_chooseKept 28 = .ok (.iload_n 1, 1) := by decide +kernel
theorem dX4_chooseKept_29 : decode cX4_chooseKept 29 = .ok (.bipush 20, 2) := by decide +kernel
theorem dX4_chooseKept_31 : decode cX4_chooseKept 31 = .ok (.iadd, 1) := by decide +kernel
theorem dX4_chooseKept_32 : decode cX4_chooseKept 32 = .ok (.iaload, 1) := by decide +kernel
theorem dX4_chooseKept_33 : decode cX4_chooseKept 33 = .ok (.ifCond .le 8, 3) := by decide +kernel
theorem dX4_chooseKept_36 : decode cX4_chooseKept 36 = .ok (.aload_n 0, 1) := by decide +kernel
theorem dX4_chooseKept_37 : decode cX4_chooseKept 37 = .ok (.iload_n 1, 1) := by decide +kernel
theorem dX4_chooseKept_38 : decode cX4_chooseKept 38 = .ok (.invokevirtual 80, 3) := by decide +kernel
theorem dX4_chooseKept_41 : decode cX4_chooseKept 41 = .ok (.iinc 1 1, 3) := by decide +kernel
theorem dX4_chooseKept_44 : decode cX4_chooseKept 44 = .ok (.goto (-26), 3) := by decide +kernel
theorem dX4_chooseKept_47 : decode cX4_chooseKept 47 = .ok (.return_, 1) := by decide +kernel
theorem dX4_chooseIfMore_0 : decode cX4_chooseIfMore 0 = .ok (.bipush 20, 2) := by decide +kernel
theorem dX4_chooseIfMore_2 : decode cX4_chooseIfMore 2 = .ok (.iload_n 1, 1) := by decide +kernel
theorem dX4_chooseIfMore_3 : decode cX4_chooseIfMore 3 = .ok (.iconst 2, 1) := by decide +kernel
theorem dX4_chooseIfMore_4 : decode cX4_chooseIfMore 4 = .ok (.aload_n 0, 1) := by decide +kernel
theorem dX4_chooseIfMore_5 : decode cX4_chooseIfMore 5 = .ok (.getfield 50, 3) := by decide +kernel
theorem dX4_chooseIfMore_8 : decode cX4_chooseIfMore 8 = .ok (.getfield 84, 3) := by decide +kernel
theorem dX4_chooseIfMore_11 : decode cX4_chooseIfMore 11 = .ok (.iconst 1, 1) := by decide +kernel
theorem dX4_chooseIfMore_12 : decode cX4_chooseIfMore 12 = .ok (.iaload, 1) := by decide +kernel
theorem dX4_chooseIfMore_13 : decode cX4_chooseIfMore 13 = .ok (.imul, 1) := by decide +kernel
theorem dX4_chooseIfMore_14 : decode cX4_chooseIfMore 14 = .ok (.iadd, 1) := by decide +kernel
theorem dX4_chooseIfMore_15 : decode cX4_chooseIfMore 15 = .ok (.invokestatic 87, 3) := by decide +kernel
theorem dX4_chooseIfMore_18 : decode cX4_chooseIfMore 18 = .ok (.istore_n 2, 1) := by decide +kernel
theorem dX4_chooseIfMore_19 : decode cX4_chooseIfMore 19 = .ok (.iconst 0, 1) := by decide +kernel
theorem dX4_chooseIfMore_20 : decode cX4_chooseIfMore 20 = .ok (.istore_n 3, 1) := by decide +kernel
theorem dX4_chooseIfMore_21 : decode cX4_chooseIfMore 21 = .ok (.iconst 0, 1) := by decide +kernel
theorem dX4_chooseIfMore_22 : decode cX4_chooseIfMore 22 = .ok (.istore 4, 2) := by decide +kernel
theorem dX4_chooseIfMore_24 : decode cX4_chooseIfMore 24 = .ok (.iload_n 1, 1) := by decide +kernel
theorem dX4_chooseIfMore_25 : decode cX4_chooseIfMore 25 = .ok (.istore 5, 2) := by decide +kernel
theorem dX4_chooseIfMore_27 : decode cX4_chooseIfMore 27 = .ok (.iload 5, 2) := by decide +kernel
theorem dX4_chooseIfMore_29 : decode cX4_chooseIfMore 29 = .ok (.iload_n 2, 1) := by decide +kernel
theorem dX4_chooseIfMore_30 : decode cX4_chooseIfMore 30 = .ok (.if_icmp .gt 40, 3) := by decide +kernel
theorem dX4_chooseIfMore_33 : decode cX4_chooseIfMore 33 = .ok (.iload_n 3, 1) := by decide +kernel
theorem dX4_chooseIfMore_34 : decode cX4_chooseIfMore 34 = .ok (.aload_n 0, 1) := by decide +kernel
theorem dX4_chooseIfMore_35 : decode cX4_chooseIfMore 35 = .ok (.getfield 46, 3) := by decide +kernel
theorem dX4_chooseIfMore_38 : decode cX4_chooseIfMore 38 = .ok (.iload 5, 2) := by decide +kernel
theorem dX4_chooseIfMore_40 : decode cX4_chooseIfMore 40 = .ok (.bipush 20, 2) := by decide +kernel
theorem dX4_chooseIfMore_42 : decode cX4_chooseIfMore 42 = .ok (.iadd, 1) := by decide +kernel
theorem dX4_chooseIfMore_43 : decode cX4_chooseIfMore 43 = .ok (.iaload, 1) := by decide +kernel
theorem dX4_chooseIfMore_44 : decode cX4_chooseIfMore 44 = .ok (.iadd, 1) := by decide +kernel
theorem dX4_chooseIfMore_45 : decode cX4_chooseIfMore 45 = .ok (.istore_n 3, 1) := by decide +kernel
theorem dX4_chooseIfMore_46 : decode cX4_chooseIfMore 46 = .ok (.iload 4, 2) := by decide +kernel
theorem dX4_chooseIfMore_48 : decode cX4_chooseIfMore 48 = .ok (.iload 5, 2) := by decide +kernel
theorem dX4_chooseIfMore_50 : decode cX4_chooseIfMore 50 = .ok (.aload_n 0, 1) := by decide +kernel
theorem dX4_chooseIfMore_51 : decode cX4_chooseIfMore 51 = .ok (.getfield 46, 3) := by decide +kernel
theorem dX4_chooseIfMore_54 : decode cX4_chooseIfMore 54 = .ok (.iload 5, 2) := by decide +kernel
theorem dX4_chooseIfMore_56 : decode cX4_chooseIfMore 56 = .ok (.bipush 20, 2) := by decide +kernel
theorem dX4_chooseIfMore_58 : decode cX4_chooseIfMore 58 = .ok (.iadd, 1) := by decide +kernel
theorem dX4_chooseIfMore_59 : decode cX4_chooseIfMore 59 = .ok (.iaload, 1) := by decide +kernel
theorem dX4_chooseIfMore_60 : decode cX4_chooseIfMore 60 = .ok (.imul, 1) := by decide +kernel
theorem dX4_chooseIfMore_61 : decode cX4_chooseIfMore 61 = .ok (.iadd, 1) := by decide +kernel
theorem dX4_chooseIfMore_62 : decode cX4_chooseIfMore 62 = .ok (.istore 4, 2) := by decide +kernel
theorem dX4_chooseIfMore_64 : decode cX4_chooseIfMore 64 = .ok (.iinc 5 1, 3) := by decide +kernel
theorem dX4_chooseIfMore_67 : decode cX4_chooseIfMore 67 = .ok (.goto (-40), 3) := by decide +kernel
theorem dX4_chooseIfMore_70 : decode cX4_chooseIfMore 70 = .ok (.iload_n 3, 1) := by decide +kernel
theorem dX4_chooseIfMore_71 : decode cX4_chooseIfMore 71 = .ok (.aload_n 0, 1) := by decide +kernel
theorem dX4_chooseIfMore_72 : decode cX4_chooseIfMore 72 = .ok (.getfield 37, 3) := by decide +kernel
theorem dX4_chooseIfMore_75 : decode cX4_chooseIfMore 75 = .ok (.if_icmp .le 19, 3) := by decide +kernel
theorem dX4_chooseIfMore_78 : decode cX4_chooseIfMore 78 = .ok (.aload_n 0, 1) := by decide +kernel
theorem dX4_chooseIfMore_79 : decode cX4_chooseIfMore 79 = .ok (.iload_n 3, 1) := by decide +kernel
theorem dX4_chooseIfMore_80 : decode cX4_chooseIfMore 80 = .ok (.putfield 37, 3) := by decide +kernel
theorem dX4_chooseIfMore_83 : decode cX4_chooseIfMore 83 = .ok (.aload_n 0, 1) := by decide +kernel
theorem dX4_chooseIfMore_84 : decode cX4_chooseIfMore 84 = .ok (.iload 4, 2) := by decide +kernel
theorem dX4_chooseIfMore_86 : decode cX4_chooseIfMore 86 = .ok (.putfield 40, 3) := by decide +kernel
theorem dX4_chooseIfMore_89 : decode cX4_chooseIfMore 89 = .ok (.aload_n 0, 1) := by decide +kernel
theorem dX4_chooseIfMore_90 : decode cX4_chooseIfMore 90 = .ok (.iload_n 1, 1) := by decide +kernel
theorem dX4_chooseIfMore_91 : decode cX4_chooseIfMore 91 = .ok (.putfield 43, 3) := by decide +kernel
theorem dX4_chooseIfMore_94 : decode cX4_chooseIfMore 94 = .ok (.return_, 1) := by decide +kernel
theorem dX4_meanParts_0 : decode cX4_meanParts 0 = .ok (.aload_n 0, 1) := by decide +kernel
theorem dX4_meanParts_1 : decode cX4_meanParts 1 = .ok (.getfield 34, 3) := by decide +kernel
theorem dX4_meanParts_4 : decode cX4_meanParts 4 = .ok (.ifCond .le 10, 3) := by decide +kernel
theorem dX4_meanParts_7 : decode cX4_meanParts 7 = .ok (.aload_n 0, 1) := by decide +kernel
theorem dX4_meanParts_8 : decode cX4_meanParts 8 = .ok (.getfield 37, 3) := by decide +kernel
theorem dX4_meanParts_11 : decode cX4_meanParts 11 = .ok (.goto 7, 3) := by decide +kernel
theorem dX4_meanParts_14 : decode cX4_meanParts 14 = .ok (.aload_n 0, 1) := by decide +kernel
theorem dX4_meanParts_15 : decode cX4_meanParts 15 = .ok (.getfield 31, 3) := by decide +kernel
theorem dX4_meanParts_18 : decode cX4_meanParts 18 = .ok (.ireturn, 1) := by decide +kernel
theorem dX4_meanSum_0 : decode cX4_meanSum 0 = .ok (.aload_n 0, 1) := by decide +kernel
theorem dX4_meanSum_1 : decode cX4_meanSum 1 = .ok (.getfield 34, 3) := by decide +kernel
theorem dX4_meanSum_4 : decode cX4_meanSum 4 = .ok (.ifCond .le 8, 3) := by decide +kernel
theorem dX4_meanSum_7 : decode cX4_meanSum 7 = .ok (.aload_n 0, 1) := by decide +kernel
theorem dX4_meanSum_8 : decode cX4_meanSum 8 = .ok (.getfield 40, 3) := by decide +kernel
theorem dX4_meanSum_11 : decode cX4_meanSum 11 = .ok (.ireturn, 1) := by decide +kernel
theorem dX4_meanSum_12 : decode cX4_meanSum 12 = .ok (.iconst 0, 1) := by decide +kernel
theorem dX4_meanSum_13 : decode cX4_meanSum 13 = .ok (.istore_n 1, 1) := by decide +kernel
theorem dX4_meanSum_14 : decode cX4_meanSum 14 = .ok (.iconst 0, 1) := by decide +kernel
theorem dX4_meanSum_15 : decode cX4_meanSum 15 = .ok (.istore_n 2, 1) := by decide +kernel
theorem dX4_meanSum_16 : decode cX4_meanSum 16 = .ok (.iload_n 2, 1) := by decide +kernel
theorem dX4_meanSum_17 : decode cX4_meanSum 17 = .ok (.bipush 8, 2) := by decide +kernel
theorem dX4_meanSum_19 : decode cX4_meanSum 19 = .ok (.if_icmp .ge 44, 3) := by decide +kernel
theorem dX4_meanSum_22 : decode cX4_meanSum 22 = .ok (.iconst 0, 1) := by decide +kernel
theorem dX4_meanSum_23 : decode cX4_meanSum 23 = .ok (.istore_n 3, 1) := by decide +kernel
theorem dX4_meanSum_24 : decode cX4_meanSum 24 = .ok (.iload_n 3, 1) := by decide +kernel
theorem dX4_meanSum_25 : decode cX4_meanSum 25 = .ok (.bipush 8, 2) := by decide +kernel
theorem dX4_meanSum_27 : decode cX4_meanSum 27 = .ok (.if_icmp .ge 30, 3) := by decide +kernel
theorem dX4_meanSum_30 : decode cX4_meanSum 30 = .ok (.aload_n 0, 1) := by decide +kernel
theorem dX4_meanSum_31 : decode cX4_meanSum 31 = .ok (.iload_n 2, 1) := by decide +kernel
theorem dX4_meanSum_32 : decode cX4_meanSum 32 = .ok (.iload_n 3, 1) := by decide +kernel
theorem dX4_meanSum_33 : decode cX4_meanSum 33 = .ok (.invokevirtual 63, 3) := by decide +kernel
theorem dX4_meanSum_36 : decode cX4_meanSum 36 = .ok (.ifCond .eq 15, 3) := by decide +kernel
theorem dX4_meanSum_39 : decode cX4_meanSum 39 = .ok (.iload_n 1, 1) := by decide +kernel
theorem dX4_meanSum_40 : decode cX4_meanSum 40 = .ok (.aload_n 0, 1) := by decide +kernel
theorem dX4_meanSum_41 : decode cX4_meanSum 41 = .ok (.getfield 50, 3) := by decide +kernel
theorem dX4_meanSum_44 : decode cX4_meanSum 44 = .ok (.iload_n 2, 1) := by decide +kernel
theorem dX4_meanSum_45 : decode cX4_meanSum 45 = .ok (.iload_n 3, 1) := by decide +kernel
theorem dX4_meanSum_46 : decode cX4_meanSum 46 = .ok (.invokevirtual 92, 3) := by decide +kernel
theorem dX4_meanSum_49 : decode cX4_meanSum 49 = .ok (.iadd, 1) := by decide +kernel
theorem dX4_meanSum_50 : decode cX4_meanSum 50 = .ok (.istore_n 1, 1) := by decide +kernel
theorem dX4_meanSum_51 : decode cX4_meanSum 51 = .ok (.iinc 3 1, 3) := by decide +kernel
theorem dX4_meanSum_54 : decode cX4_meanSum 54 = .ok (.goto (-30), 3) := by decide +kernel
theorem dX4_meanSum_57 : decode cX4_meanSum 57 = .ok (.iinc 2 1, 3) := by decide +kernel
theorem dX4_meanSum_60 : decode cX4_meanSum 60 = .ok (.goto (-44), 3) := by decide +kernel
theorem dX4_meanSum_63 : decode cX4_meanSum 63 = .ok (.iload_n 1, 1) := by decide +kernel
theorem dX4_meanSum_64 : decode cX4_meanSum 64 = .ok (.ireturn, 1) := by decide +kernel
theorem dX4_gapOfCell_0 : decode cX4_gapOfCell 0 = .ok (.aload_n 0, 1) := by decide +kernel
theorem dX4_gapOfCell_1 : decode cX4_gapOfCell 1 = .ok (.invokevirtual 95, 3) := by decide +kernel
theorem dX4_gapOfCell_4 : decode cX4_gapOfCell 4 = .ok (.istore_n 1, 1) := by decide +kernel
theorem dX4_gapOfCell_5 : decode cX4_gapOfCell 5 = .ok (.iload_n 1, 1) := by decide +kernel
theorem dX4_gapOfCell_6 : decode cX4_gapOfCell 6 = .ok (.ifCond .le 20, 3) := by decide +kernel
theorem dX4_gapOfCell_9 : decode cX4_gapOfCell 9 = .ok (.iconst 2, 1) := by decide +kernel
theorem dX4_gapOfCell_10 : decode cX4_gapOfCell 10 = .ok (.aload_n 0, 1) := by decide +kernel
theorem dX4_gapOfCell_11 : decode cX4_gapOfCell 11 = .ok (.invokevirtual 99, 3) := by decide +kernel
theorem dX4_gapOfCell_14 : decode cX4_gapOfCell 14 = .ok (.imul, 1) := by decide +kernel
theorem dX4_gapOfCell_15 : decode cX4_gapOfCell 15 = .ok (.iload_n 1, 1) := by decide +kernel
theorem dX4_gapOfCell_16 : decode cX4_gapOfCell 16 = .ok (.iadd, 1) := by decide +kernel
theorem dX4_gapOfCell_17 : decode cX4_gapOfCell 17 = .ok (.iconst 2, 1) := by decide +kernel
theorem dX4_gapOfCell_18 : decode cX4_gapOfCell 18 = .ok (.iload_n 1, 1) := by decide +kernel
theorem dX4_gapOfCell_19 : decode cX4_gapOfCell 19 = .ok (.imul, 1) := by decide +kernel
theorem dX4_gapOfCell_20 : decode cX4_gapOfCell 20 = .ok (.invokestatic 102, 3) := by decide +kernel
theorem dX4_gapOfCell_23 : decode cX4_gapOfCell 23 = .ok (.goto 4, 3) := by decide +kernel
theorem dX4_gapOfCell_26 : decode cX4_gapOfCell 26 = .ok (.iconst 0, 1) := by decide +kernel
theorem dX4_gapOfCell_27 : decode cX4_gapOfCell 27 = .ok (.ireturn, 1) := by decide +kernel
theorem dX4_meanAbove_0 : decode cX4_meanAbove 0 = .ok (.aload_n 0, 1) := by decide +kernel
theorem dX4_meanAbove_1 : decode cX4_meanAbove 1 = .ok (.invokevirtual 95, 3) := by decide +kernel
theorem dX4_meanAbove_4 : decode cX4_meanAbove 4 = .ok (.istore_n 1, 1) := by decide +kernel
theorem dX4_meanAbove_5 : decode cX4_meanAbove 5 = .ok (.aload_n 0, 1) := by decide +kernel
theorem dX4_meanAbove_6 : decode cX4_meanAbove 6 = .ok (.invokevirtual 99, 3) := by decide +kernel
theorem dX4_meanAbove_9 : decode cX4_meanAbove 9 = .ok (.bipush 100, 2) := by decide +kernel
theorem dX4_meanAbove_11 : decode cX4_meanAbove 11 = .ok (.iload_n 1, 1) := by decide +kernel
theorem dX4_meanAbove_12 : decode cX4_meanAbove 12 = .ok (.imul, 1) := by decide +kernel
theorem dX4_meanAbove_13 : decode cX4_meanAbove 13 = .ok (.iadd, 1) := by decide +kernel
theorem dX4_meanAbove_14 : decode cX4_meanAbove 14 = .ok (.istore_n 2, 1) := by decide +kernel
theorem dX4_meanAbove_15 : decode cX4_meanAbove 15 = .ok (.iload_n 2, 1) := by decide +kernel
theorem dX4_meanAbove_16 : decode cX4_meanAbove 16 = .ok (.iload_n 2, 1) := by decide +kernel
theorem dX4_meanAbove_17 : decode cX4_meanAbove 17 = .ok (.iload_n 1, 1) := by decide +kernel
theorem dX4_meanAbove_18 : decode cX4_meanAbove 18 = .ok (.invokestatic 105, 3) := by decide +kernel
theorem dX4_meanAbove_21 : decode cX4_meanAbove 21 = .ok (.idiv, 1) := by decide +kernel
theorem dX4_meanAbove_22 : decode cX4_meanAbove 22 = .ok (.ireturn, 1) := by decide +kernel
theorem dX4_meanBelow_0 : decode cX4_meanBelow 0 = .ok (.aload_n 0, 1) := by decide +kernel
theorem dX4_meanBelow_1 : decode cX4_meanBelow 1 = .ok (.invokevirtual 95, 3) := by decide +kernel
theorem dX4_meanBelow_4 : decode cX4_meanBelow 4 = .ok (.istore_n 1, 1) := by decide +kernel
theorem dX4_meanBelow_5 : decode cX4_meanBelow 5 = .ok (.iload_n 1, 1) := by decide +kernel
theorem dX4_meanBelow_6 : decode cX4_meanBelow 6 = .ok (.aload_n 0, 1) := by decide +kernel
theorem dX4_meanBelow_7 : decode cX4_meanBelow 7 = .ok (.invokevirtual 99, 3) := by decide +kernel
theorem dX4_meanBelow_10 : decode cX4_meanBelow 10 = .ok (.bipush 100, 2) := by decide +kernel
theorem dX4_meanBelow_12 : decode cX4_meanBelow 12 = .ok (.iload_n 1, 1) := by decide +kernel
theorem dX4_meanBelow_13 : decode cX4_meanBelow 13 = .ok (.imul, 1) := by decide +kernel
theorem dX4_meanBelow_14 : decode cX4_meanBelow 14 = .ok (.iadd, 1) := by decide +kernel
theorem dX4_meanBelow_15 : decode cX4_meanBelow 15 = .ok (.iload_n 1, 1) := by decide +kernel
theorem dX4_meanBelow_16 : decode cX4_meanBelow 16 = .ok (.invokestatic 105, 3) := by decide +kernel
theorem dX4_meanBelow_19 : decode cX4_meanBelow 19 = .ok (.idiv, 1) := by decide +kernel
theorem dX4_meanBelow_20 : decode cX4_meanBelow 20 = .ok (.ireturn, 1) := by decide +kernel
theorem dX4_commonDivisor_0 : decode cX4_commonDivisor 0 = .ok (.iload_n 1, 1) := by decide +kernel
theorem dX4_commonDivisor_1 : decode cX4_commonDivisor 1 = .ok (.istore_n 2, 1) := by decide +kernel
theorem dX4_commonDivisor_2 : decode cX4_commonDivisor 2 = .ok (.iload_n 2, 1) := by decide +kernel
theorem dX4_commonDivisor_3 : decode cX4_commonDivisor 3 = .ok (.iconst 1, 1) := by decide +kernel
theorem dX4_commonDivisor_4 : decode cX4_commonDivisor 4 = .ok (.if_icmp .le 23, 3) := by decide +kernel
theorem dX4_commonDivisor_7 : decode cX4_commonDivisor 7 = .ok (.iload_n 0, 1) := by decide +kernel
theorem dX4_commonDivisor_8 : decode cX4_commonDivisor 8 = .ok (.iload_n 2, 1) := by decide +kernel
theorem dX4_commonDivisor_9 : decode cX4_commonDivisor 9 = .ok (.irem, 1) := by decide +kernel
theorem dX4_commonDivisor_10 : decode cX4_commonDivisor 10 = .ok (.ifCond .ne 11, 3) := by decide +kernel
theorem dX4_commonDivisor_13 : decode cX4_commonDivisor 13 = .ok (.iload_n 1, 1) := by decide +kernel
theorem dX4_commonDivisor_14 : decode cX4_commonDivisor 14 = .ok (.iload_n 2, 1) := by decide +kernel
theorem dX4_commonDivisor_15 : decode cX4_commonDivisor 15 = .ok (.irem, 1) := by decide +kernel
theorem dX4_commonDivisor_16 : decode cX4_commonDivisor 16 = .ok (.ifCond .ne 5, 3) := by decide +kernel
theorem dX4_commonDivisor_19 : decode cX4_commonDivisor 19 = .ok (.iload_n 2, 1) := by decide +kernel
theorem dX4_commonDivisor_20 : decode cX4_commonDivisor 20 = .ok (.ireturn, 1) := by decide +kernel
theorem dX4_commonDivisor_21 : decode cX4_commonDivisor 21 = .ok (.iinc 2 (-1), 3) := by decide +kernel
theorem dX4_commonDivisor_24 : decode cX4_commonDivisor 24 = .ok (.goto (-22), 3) := by decide +kernel
theorem dX4_commonDivisor_27 : decode cX4_commonDivisor 27 = .ok (.iconst 1, 1) := by decide +kernel
theorem dX4_commonDivisor_28 : decode cX4_commonDivisor 28 = .ok (.ireturn, 1) := by decide +kernel
theorem dX4_isStrange_0 : decode cX4_isStrange 0 = .ok (.aload_n 0, 1) := by decide +kernel
theorem dX4_isStrange_1 : decode cX4_isStrange 1 = .ok (.getfield 50, 3) := by decide +kernel
theorem dX4_isStrange_4 : decode cX4_isStrange 4 = .ok (.iload_n 1, 1) := by decide +kernel
theorem dX4_isStrange_5 : decode cX4_isStrange 5 = .ok (.iload_n 2, 1) := by decide +kernel
theorem dX4_isStrange_6 : decode cX4_isStrange 6 = .ok (.invokevirtual 67, 3) := by decide +kernel
theorem dX4_isStrange_9 : decode cX4_isStrange 9 = .ok (.ifCond .ne 5, 3) := by decide +kernel
theorem dX4_isStrange_12 : decode cX4_isStrange 12 = .ok (.iconst 0, 1) := by decide +kernel
theorem dX4_isStrange_13 : decode cX4_isStrange 13 = .ok (.ireturn, 1) := by decide +kernel
theorem dX4_isStrange_14 : decode cX4_isStrange 14 = .ok (.aload_n 0, 1) := by decide +kernel
theorem dX4_isStrange_15 : decode cX4_isStrange 15 = .ok (.aload_n 0, 1) := by decide +kernel
theorem dX4_isStrange_16 : decode cX4_isStrange 16 = .ok (.getfield 18, 3) := by decide +kernel
theorem dX4_isStrange_19 : decode cX4_isStrange 19 = .ok (.getfield 77, 3) := by decide +kernel
theorem dX4_isStrange_22 : decode cX4_isStrange 22 = .ok (.iload_n 1, 1) := by decide +kernel
theorem dX4_isStrange_23 : decode cX4_isStrange 23 = .ok (.iaload, 1) := by decide +kernel
theorem dX4_isStrange_24 : decode cX4_isStrange 24 = .ok (.aload_n 0, 1) := by decide +kernel
theorem dX4_isStrange_25 : decode cX4_isStrange 25 = .ok (.getfield 12, 3) := by decide +kernel
theorem dX4_isStrange_28 : decode cX4_isStrange 28 = .ok (.getfield 77, 3) := by decide +kernel
theorem dX4_isStrange_31 : decode cX4_isStrange 31 = .ok (.iload_n 2, 1) := by decide +kernel
theorem dX4_isStrange_32 : decode cX4_isStrange 32 = .ok (.iaload, 1) := by decide +kernel
theorem dX4_isStrange_33 : decode cX4_isStrange 33 = .ok (.invokevirtual 108, 3) := by decide +kernel
theorem dX4_isStrange_36 : decode cX4_isStrange 36 = .ok (.aload_n 0, 1) := by decide +kernel
theorem dX4_isStrange_37 : decode cX4_isStrange 37 = .ok (.iload_n 1, 1) := by decide +kernel
theorem dX4_isStrange_38 : decode cX4_isStrange 38 = .ok (.iload_n 2, 1) := by decide +kernel
theorem dX4_isStrange_39 : decode cX4_isStrange 39 = .ok (.invokevirtual 112, 3) := by decide +kernel
theorem dX4_isStrange_42 : decode cX4_isStrange 42 = .ok (.ireturn, 1) := by decide +kernel
theorem dX4_gapOfPair_0 : decode cX4_gapOfPair 0 = .ok (.aload_n 0, 1) := by decide +kernel
theorem dX4_gapOfPair_1 : decode cX4_gapOfPair 1 = .ok (.aload_n 0, 1) := by decide +kernel
theorem dX4_gapOfPair_2 : decode cX4_gapOfPair 2 = .ok (.getfield 18, 3) := by decide +kernel
theorem dX4_gapOfPair_5 : decode cX4_gapOfPair 5 = .ok (.getfield 77, 3) := by decide +kernel
theorem dX4_gapOfPair_8 : decode cX4_gapOfPair 8 = .ok (.iload_n 1, 1) := by decide +kernel
theorem dX4_gapOfPair_9 : decode cX4_gapOfPair 9 = .ok (.iaload, 1) := by decide +kernel
theorem dX4_gapOfPair_10 : decode cX4_gapOfPair 10 = .ok (.aload_n 0, 1) := by decide +kernel
theorem dX4_gapOfPair_11 : decode cX4_gapOfPair 11 = .ok (.getfield 12, 3) := by decide +kernel
theorem dX4_gapOfPair_14 : decode cX4_gapOfPair 14 = .ok (.getfield 77, 3) := by decide +kernel
theorem dX4_gapOfPair_17 : decode cX4_gapOfPair 17 = .ok (.iload_n 2, 1) := by decide +kernel
theorem dX4_gapOfPair_18 : decode cX4_gapOfPair 18 = .ok (.iaload, 1) := by decide +kernel
theorem dX4_gapOfPair_19 : decode cX4_gapOfPair 19 = .ok (.invokevirtual 108, 3) := by decide +kernel
theorem dX4_gapOfPair_22 : decode cX4_gapOfPair 22 = .ok (.aload_n 0, 1) := by decide +kernel
theorem dX4_gapOfPair_23 : decode cX4_gapOfPair 23 = .ok (.iload_n 1, 1) := by decide +kernel
theorem dX4_gapOfPair_24 : decode cX4_gapOfPair 24 = .ok (.iload_n 2, 1) := by decide +kernel
theorem dX4_gapOfPair_25 : decode cX4_gapOfPair 25 = .ok (.invokevirtual 112, 3) := by decide +kernel
theorem dX4_gapOfPair_28 : decode cX4_gapOfPair 28 = .ok (.ifCond .eq 15, 3) := by decide +kernel
theorem dX4_gapOfPair_31 : decode cX4_gapOfPair 31 = .ok (.aload_n 0, 1) := by decide +kernel
theorem dX4_gapOfPair_32 : decode cX4_gapOfPair 32 = .ok (.getfield 50, 3) := by decide +kernel
theorem dX4_gapOfPair_35 : decode cX4_gapOfPair 35 = .ok (.iload_n 1, 1) := by decide +kernel
theorem dX4_gapOfPair_36 : decode cX4_gapOfPair 36 = .ok (.iload_n 2, 1) := by decide +kernel
theorem dX4_gapOfPair_37 : decode cX4_gapOfPair 37 = .ok (.invokevirtual 70, 3) := by decide +kernel
theorem dX4_gapOfPair_40 : decode cX4_gapOfPair 40 = .ok (.goto 7, 3) := by decide +kernel
theorem dX4_gapOfPair_43 : decode cX4_gapOfPair 43 = .ok (.aload_n 0, 1) := by decide +kernel
theorem dX4_gapOfPair_44 : decode cX4_gapOfPair 44 = .ok (.invokevirtual 115, 3) := by decide +kernel
theorem dX4_gapOfPair_47 : decode cX4_gapOfPair 47 = .ok (.ireturn, 1) := by decide +kernel
theorem dX4_isLeftOut_0 : decode cX4_isLeftOut 0 = .ok (.aload_n 0, 1) := by decide +kernel
theorem dX4_isLeftOut_1 : decode cX4_isLeftOut 1 = .ok (.getfield 50, 3) := by decide +kernel
theorem dX4_isLeftOut_4 : decode cX4_isLeftOut 4 = .ok (.iload_n 1, 1) := by decide +kernel
theorem dX4_isLeftOut_5 : decode cX4_isLeftOut 5 = .ok (.iload_n 2, 1) := by decide +kernel
theorem dX4_isLeftOut_6 : decode cX4_isLeftOut 6 = .ok (.invokevirtual 70, 3) := by decide +kernel
theorem dX4_isLeftOut_9 : decode cX4_isLeftOut 9 = .ok (.istore_n 3, 1) := by decide +kernel
theorem dX4_isLeftOut_10 : decode cX4_isLeftOut 10 = .ok (.aload_n 0, 1) := by decide +kernel
theorem dX4_isLeftOut_11 : decode cX4_isLeftOut 11 = .ok (.getfield 50, 3) := by decide +kernel
theorem dX4_isLeftOut_14 : decode cX4_isLeftOut 14 = .ok (.iload_n 1, 1) := by decide +kernel
theorem dX4_isLeftOut_15 : decode cX4_isLeftOut 15 = .ok (.iload_n 2, 1) := by decide +kernel
theorem dX4_isLeftOut_16 : decode cX4_isLeftOut 16 = .ok (.invokevirtual 67, 3) := by decide +kernel
theorem dX4_isLeftOut_19 : decode cX4_isLeftOut 19 = .ok (.ifCond .eq 35, 3) := by decide +kernel
theorem dX4_isLeftOut_22 : decode cX4_isLeftOut 22 = .ok (.iload_n 3, 1) := by decide +kernel
theorem dX4_isLeftOut_23 : decode cX4_isLeftOut 23 = .ok (.aload_n 0, 1) := by decide +kernel
theorem dX4_isLeftOut_24 : decode cX4_isLeftOut 24 = .ok (.getfield 43, 3) := by decide +kernel
theorem dX4_isLeftOut_27 : decode cX4_isLeftOut 27 = .ok (.if_icmp .lt 23, 3) := by decide +kernel
theorem dX4_isLeftOut_30 : decode cX4_isLeftOut 30 = .ok (.iload_n 3, 1) := by decide +kernel
theorem dX4_isLeftOut_31 : decode cX4_isLeftOut 31 = .ok (.aload_n 0, 1) := by decide +kernel
theorem dX4_isLeftOut_32 : decode cX4_isLeftOut 32 = .ok (.getfield 43, 3) := by decide +kernel
theorem dX4_isLeftOut_35 : decode cX4_isLeftOut 35 = .ok (.iconst 2, 1) := by decide +kernel
theorem dX4_isLeftOut_36 : decode cX4_isLeftOut 36 = .ok (.aload_n 0, 1) := by decide +kernel
theorem dX4_isLeftOut_37 : decode cX4_isLeftOut 37 = .ok (.getfield 50, 3) := by decide +kernel
theorem dX4_isLeftOut_40 : decode cX4_isLeftOut 40 = .ok (.getfield 84, 3) := by decide +kernel
theorem dX4_isLeftOut_43 : decode cX4_isLeftOut 43 = .ok (.iconst 1, 1) := by decide +kernel
theorem dX4_isLeftOut_44 : decode cX4_isLeftOut 44 = .ok (.iaload, 1) := by decide +kernel
theorem dX4_isLeftOut_45 : decode cX4_isLeftOut 45 = .ok (.imul, 1) := by decide +kernel
theorem dX4_isLeftOut_46 : decode cX4_isLeftOut 46 = .ok (.iadd, 1) := by decide +kernel
theorem dX4_isLeftOut_47 : decode cX4_isLeftOut 47 = .ok (.if_icmp .le 7, 3) := by decide +kernel
theorem dX4_isLeftOut_50 : decode cX4_isLeftOut 50 = .ok (.iconst 1, 1) := by decide +kernel
theorem dX4_isLeftOut_51 : decode cX4_isLeftOut 51 = .ok (.goto 4, 3) := by decide +kernel
theorem dX4_isLeftOut_54 : decode cX4_isLeftOut 54 = .ok (.iconst 0, 1) := by decide +kernel
theorem dX4_isLeftOut_55 : decode cX4_isLeftOut 55 = .ok (.ireturn, 1) := by decide +kernel
theorem dX4_countStrange_0 : decode cX4_countStrange 0 = .ok (.iconst 0, 1) := by decide +kernel
theorem dX4_countStrange_1 : decode cX4_countStrange 1 = .ok (.istore_n 1, 1) := by decide +kernel
theorem dX4_countStrange_2 : decode cX4_countStrange 2 = .ok (.iconst 0, 1) := by decide +kernel
theorem dX4_countStrange_3 : decode cX4_countStrange 3 = .ok (.istore_n 2, 1) := by decide +kernel
theorem dX4_countStrange_4 : decode cX4_countStrange 4 = .ok (.iload_n 2, 1) := by decide +kernel
theorem dX4_countStrange_5 : decode cX4_countStrange 5 = .ok (.bipush 8, 2) := by decide +kernel
theorem dX4_countStrange_7 : decode cX4_countStrange 7 = .ok (.if_icmp .ge 35, 3) := by decide +kernel
theorem dX4_countStrange_10 : decode cX4_countStrange 10 = .ok (.iconst 0, 1) := by decide +kernel
theorem dX4_countStrange_11 : decode cX4_countStrange 11 = .ok (.istore_n 3, 1) := by decide +kernel
theorem dX4_countStrange_12 : decode cX4_countStrange 12 = .ok (.iload_n 3, 1) := by decide +kernel
theorem dX4_countStrange_13 : decode cX4_countStrange 13 = .ok (.bipush 8, 2) := by decide +kernel
theorem dX4_countStrange_15 : decode cX4_countStrange 15 = .ok (.if_icmp .ge 21, 3) := by decide +kernel
theorem dX4_countStrange_18 : decode cX4_countStrange 18 = .ok (.aload_n 0, 1) := by decide +kernel
theorem dX4_countStrange_19 : decode cX4_countStrange 19 = .ok (.iload_n 2, 1) := by decide +kernel
theorem dX4_countStrange_20 : decode cX4_countStrange 20 = .ok (.iload_n 3, 1) := by decide +kernel
theorem dX4_countStrange_21 : decode cX4_countStrange 21 = .ok (.invokevirtual 118, 3) := by decide +kernel
theorem dX4_countStrange_24 : decode cX4_countStrange 24 = .ok (.ifCond .eq 6, 3) := by decide +kernel
theorem dX4_countStrange_27 : decode cX4_countStrange 27 = .ok (.iinc 1 1, 3) := by decide +kernel
theorem dX4_countStrange_30 : decode cX4_countStrange 30 = .ok (.iinc 3 1, 3) := by decide +kernel
theorem dX4_countStrange_33 : decode cX4_countStrange 33 = .ok (.goto (-21), 3) := by decide +kernel
theorem dX4_countStrange_36 : decode cX4_countStrange 36 = .ok (.iinc 2 1, 3) := by decide +kernel
theorem dX4_countStrange_39 : decode cX4_countStrange 39 = .ok (.goto (-35), 3) := by decide +kernel
theorem dX4_countStrange_42 : decode cX4_countStrange 42 = .ok (.iload_n 1, 1) := by decide +kernel
theorem dX4_countStrange_43 : decode cX4_countStrange 43 = .ok (.ireturn, 1) := by decide +kernel
theorem dX4_misses_0 : decode cX4_misses 0 = .ok (.iconst 0, 1) := by decide +kernel
theorem dX4_misses_1 : decode cX4_misses 1 = .ok (.istore_n 1, 1) := by decide +kernel
theorem dX4_misses_2 : decode cX4_misses 2 = .ok (.iconst 0, 1) := by decide +kernel
theorem dX4_misses_3 : decode cX4_misses 3 = .ok (.istore_n 2, 1) := by decide +kernel
theorem dX4_misses_4 : decode cX4_misses 4 = .ok (.iload_n 2, 1) := by decide +kernel
theorem dX4_misses_5 : decode cX4_misses 5 = .ok (.bipush 8, 2) := by decide +kernel
theorem dX4_misses_7 : decode cX4_misses 7 = .ok (.if_icmp .ge 57, 3) := by decide +kernel
theorem dX4_misses_10 : decode cX4_misses 10 = .ok (.iconst 0, 1) := by decide +kernel
theorem dX4_misses_11 : decode cX4_misses 11 = .ok (.istore_n 3, 1) := by decide +kernel
theorem dX4_misses_12 : decode cX4_misses 12 = .ok (.iload_n 3, 1) := by decide +kernel
theorem dX4_misses_13 : decode cX4_misses 13 = .ok (.bipush 8, 2) := by decide +kernel
theorem dX4_misses_15 : decode cX4_misses 15 = .ok (.if_icmp .ge 43, 3) := by decide +kernel
theorem dX4_misses_18 : decode cX4_misses 18 = .ok (.aload_n 0, 1) := by decide +kernel
theorem dX4_misses_19 : decode cX4_misses 19 = .ok (.getfield 50, 3) := by decide +kernel
theorem dX4_misses_22 : decode cX4_misses 22 = .ok (.iload_n 2, 1) := by decide +kernel
theorem dX4_misses_23 : decode cX4_misses 23 = .ok (.iload_n 3, 1) := by decide +kernel
theorem dX4_misses_24 : decode cX4_misses 24 = .ok (.invokevirtual 67, 3) := by decide +kernel
theorem dX4_misses_27 : decode cX4_misses 27 = .ok (.ifCond .eq 25, 3) := by decide +kernel
theorem dX4_misses_30 : decode cX4_misses 30 = .ok (.iload_n 1, 1) := by decide +kernel
theorem dX4_misses_31 : decode cX4_misses 31 = .ok (.aload_n 0, 1) := by decide +kernel
theorem dX4_misses_32 : decode cX4_misses 32 = .ok (.getfield 50, 3) := by decide +kernel
theorem dX4_misses_35 : decode cX4_misses 35 = .ok (.iload_n 2, 1) := by decide +kernel
theorem dX4_misses_36 : decode cX4_misses 36 = .ok (.iload_n 3, 1) := by decide +kernel
theorem dX4_misses_37 : decode cX4_misses 37 = .ok (.invokevirtual 70, 3) := by decide +kernel
theorem dX4_misses_40 : decode cX4_misses 40 = .ok (.aload_n 0, 1) := by decide +kernel
theorem dX4_misses_41 : decode cX4_misses 41 = .ok (.iload_n 2, 1) := by decide +kernel
theorem dX4_misses_42 : decode cX4_misses 42 = .ok (.iload_n 3, 1) := by decide +kernel
theorem dX4_misses_43 : decode cX4_misses 43 = .ok (.invokevirtual 121, 3) := by decide +kernel
theorem dX4_misses_46 : decode cX4_misses 46 = .ok (.isub, 1) := by decide +kernel
theorem dX4_misses_47 : decode cX4_misses 47 = .ok (.invokestatic 124, 3) := by decide +kernel
theorem dX4_misses_50 : decode cX4_misses 50 = .ok (.iadd, 1) := by decide +kernel
theorem dX4_misses_51 : decode cX4_misses 51 = .ok (.istore_n 1, 1) := by decide +kernel
theorem dX4_misses_52 : decode cX4_misses 52 = .ok (.iinc 3 1, 3) := by decide +kernel
theorem dX4_misses_55 : decode cX4_misses 55 = .ok (.goto (-43), 3) := by decide +kernel
theorem dX4_misses_58 : decode cX4_misses 58 = .ok (.iinc 2 1, 3) := by decide +kernel
theorem dX4_misses_61 : decode cX4_misses 61 = .ok (.goto (-57), 3) := by decide +kernel
theorem dX4_misses_64 : decode cX4_misses 64 = .ok (.iload_n 1, 1) := by decide +kernel
theorem dX4_misses_65 : decode cX4_misses 65 = .ok (.ireturn, 1) := by decide +kernel
theorem dX4_countCells_0 : decode cX4_countCells 0 = .ok (.aload_n 0, 1) := by decide +kernel
theorem dX4_countCells_1 : decode cX4_countCells 1 = .ok (.getfield 18, 3) := by decide +kernel
theorem dX4_countCells_4 : decode cX4_countCells 4 = .ok (.getfield 128, 3) := by decide +kernel
theorem dX4_countCells_7 : decode cX4_countCells 7 = .ok (.aload_n 0, 1) := by decide +kernel
theorem dX4_countCells_8 : decode cX4_countCells 8 = .ok (.getfield 12, 3) := by decide +kernel
theorem dX4_countCells_11 : decode cX4_countCells 11 = .ok (.getfield 128, 3) := by decide +kernel
theorem dX4_countCells_14 : decode cX4_countCells 14 = .ok (.imul, 1) := by decide +kernel
theorem dX4_countCells_15 : decode cX4_countCells 15 = .ok (.ireturn, 1) := by decide +kernel
theorem dX4_size_0 : decode cX4_size 0 = .ok (.aload_n 0, 1) := by decide +kernel
theorem dX4_size_1 : decode cX4_size 1 = .ok (.invokevirtual 131, 3) := by decide +kernel
theorem dX4_size_4 : decode cX4_size 4 = .ok (.aload_n 0, 1) := by decide +kernel
theorem dX4_size_5 : decode cX4_size 5 = .ok (.invokevirtual 134, 3) := by decide +kernel
theorem dX4_size_8 : decode cX4_size 8 = .ok (.iadd, 1) := by decide +kernel
theorem dX4_size_9 : decode cX4_size 9 = .ok (.ireturn, 1) := by decide +kernel
theorem dX4_writeLine_0 : decode cX4_writeLine 0 = .ok (.iload_n 1, 1) := by decide +kernel
theorem dX4_writeLine_1 : decode cX4_writeLine 1 = .ok (.aload_n 0, 1) := by decide +kernel
theorem dX4_writeLine_2 : decode cX4_writeLine 2 = .ok (.invokevirtual 131, 3) := by decide +kernel
theorem dX4_writeLine_5 : decode cX4_writeLine 5 = .ok (.if_icmp .lt 17, 3) := by decide +kernel
theorem dX4_writeLine_8 : decode cX4_writeLine 8 = .ok (.aload_n 0, 1) := by decide +kernel
theorem dX4_writeLine_9 : decode cX4_writeLine 9 = .ok (.iload_n 1, 1) := by decide +kernel
theorem dX4_writeLine_10 : decode cX4_writeLine 10 = .ok (.aload_n 0, 1) := by decide +kernel
theorem dX4_writeLine_11 : decode cX4_writeLine 11 = .ok (.invokevirtual 131, 3) := by decide +kernel
theorem dX4_writeLine_14 : decode cX4_writeLine 14 = .ok (.isub, 1) := by decide +kernel
theorem dX4_writeLine_15 : decode cX4_writeLine 15 = .ok (.aload_n 2, 1) := by decide +kernel
theorem dX4_writeLine_16 : decode cX4_writeLine 16 = .ok (.invokevirtual 137, 3) := by decide +kernel
theorem dX4_writeLine_19 : decode cX4_writeLine 19 = .ok (.goto 69, 3) := by decide +kernel
theorem dX4_writeLine_22 : decode cX4_writeLine 22 = .ok (.aload_n 0, 1) := by decide +kernel
theorem dX4_writeLine_23 : decode cX4_writeLine 23 = .ok (.getfield 12, 3) := by decide +kernel
theorem dX4_writeLine_26 : decode cX4_writeLine 26 = .ok (.getfield 128, 3) := by decide +kernel
theorem dX4_writeLine_29 : decode cX4_writeLine 29 = .ok (.ifCond .le 59, 3) := by decide +kernel
theorem dX4_writeLine_32 : decode cX4_writeLine 32 = .ok (.iload_n 1, 1) := by decide +kernel
theorem dX4_writeLine_33 : decode cX4_writeLine 33 = .ok (.aload_n 0, 1) := by decide +kernel
theorem dX4_writeLine_34 : decode cX4_writeLine 34 = .ok (.getfield 12, 3) := by decide +kernel
theorem dX4_writeLine_37 : decode cX4_writeLine 37 = .ok (.getfield 128, 3) := by decide +kernel
theorem dX4_writeLine_40 : decode cX4_writeLine 40 = .ok (.idiv, 1) := by decide +kernel
theorem dX4_writeLine_41 : decode cX4_writeLine 41 = .ok (.istore_n 3, 1) := by decide +kernel
theorem dX4_writeLine_42 : decode cX4_writeLine 42 = .ok (.iload_n 1, 1) := by decide +kernel
theorem dX4_writeLine_43 : decode cX4_writeLine 43 = .ok (.aload_n 0, 1) := by decide +kernel
theorem dX4_writeLine_44 : decode cX4_writeLine 44 = .ok (.getfield 12, 3) := by decide +kernel
theorem dX4_writeLine_47 : decode cX4_writeLine 47 = .ok (.getfield 128, 3) := by decide +kernel
theorem dX4_writeLine_50 : decode cX4_writeLine 50 = .ok (.irem, 1) := by decide +kernel
theorem dX4_writeLine_51 : decode cX4_writeLine 51 = .ok (.istore 4, 2) := by decide +kernel
theorem dX4_writeLine_53 : decode cX4_writeLine 53 = .ok (.aload_n 0, 1) := by decide +kernel
theorem dX4_writeLine_54 : decode cX4_writeLine 54 = .ok (.iload_n 3, 1) := by decide +kernel
theorem dX4_writeLine_55 : decode cX4_writeLine 55 = .ok (.iload 4, 2) := by decide +kernel
theorem dX4_writeLine_57 : decode cX4_writeLine 57 = .ok (.invokevirtual 108, 3) := by decide +kernel
theorem dX4_writeLine_60 : decode cX4_writeLine 60 = .ok (.aload_n 2, 1) := by decide +kernel
theorem dX4_writeLine_61 : decode cX4_writeLine 61 = .ok (.iload_n 3, 1) := by decide +kernel
theorem dX4_writeLine_62 : decode cX4_writeLine 62 = .ok (.invokevirtual 141, 3) := by decide +kernel
theorem dX4_writeLine_65 : decode cX4_writeLine 65 = .ok (.bipush 47, 2) := by decide +kernel
theorem dX4_writeLine_67 : decode cX4_writeLine 67 = .ok (.invokevirtual 147, 3) := by decide +kernel
theorem dX4_writeLine_70 : decode cX4_writeLine 70 = .ok (.iload 4, 2) := by decide +kernel
theorem dX4_writeLine_72 : decode cX4_writeLine 72 = .ok (.invokevirtual 141, 3) := by decide +kernel
theorem dX4_writeLine_75 : decode cX4_writeLine 75 = .ok (.bipush 32, 2) := by decide +kernel
theorem dX4_writeLine_77 : decode cX4_writeLine 77 = .ok (.invokevirtual 147, 3) := by decide +kernel
theorem dX4_writeLine_80 : decode cX4_writeLine 80 = .ok (.aload_n 0, 1) := by decide +kernel
theorem dX4_writeLine_81 : decode cX4_writeLine 81 = .ok (.invokevirtual 115, 3) := by decide +kernel
theorem dX4_writeLine_84 : decode cX4_writeLine 84 = .ok (.invokevirtual 141, 3) := by decide +kernel
theorem dX4_writeLine_87 : decode cX4_writeLine 87 = .ok (.pop, 1) := by decide +kernel
theorem dX4_writeLine_88 : decode cX4_writeLine 88 = .ok (.return_, 1) := by decide +kernel
theorem dX4_writeStrange_0 : decode cX4_writeStrange 0 = .ok (.iload_n 1, 1) := by decide +kernel
theorem dX4_writeStrange_1 : decode cX4_writeStrange 1 = .ok (.istore_n 3, 1) := by decide +kernel
theorem dX4_writeStrange_2 : decode cX4_writeStrange 2 = .ok (.iconst 0, 1) := by decide +kernel
theorem dX4_writeStrange_3 : decode cX4_writeStrange 3 = .ok (.istore 4, 2) := by decide +kernel
theorem dX4_writeStrange_5 : decode cX4_writeStrange 5 = .ok (.iload 4, 2) := by decide +kernel
theorem dX4_writeStrange_7 : decode cX4_writeStrange 7 = .ok (.bipush 8, 2) := by decide +kernel
theorem dX4_writeStrange_9 : decode cX4_writeStrange 9 = .ok (.if_icmp .ge 84, 3) := by decide +kernel
theorem dX4_writeStrange_12 : decode cX4_writeStrange 12 = .ok (.iconst 0, 1) := by decide +kernel
theorem dX4_writeStrange_13 : decode cX4_writeStrange 13 = .ok (.istore 5, 2) := by decide +kernel
theorem dX4_writeStrange_15 : decode cX4_writeStrange 15 = .ok (.iload 5, 2) := by decide +kernel
theorem dX4_writeStrange_17 : decode cX4_writeStrange 17 = .ok (.bipush 8, 2) := by decide +kernel
theorem dX4_writeStrange_19 : decode cX4_writeStrange 19 = .ok (.if_icmp .ge 68, 3) := by decide +kernel
theorem dX4_writeStrange_22 : decode cX4_writeStrange 22 = .ok (.aload_n 0, 1) := by decide +kernel
theorem dX4_writeStrange_23 : decode cX4_writeStrange 23 = .ok (.iload 4, 2) := by decide +kernel
theorem dX4_writeStrange_25 : decode cX4_writeStrange 25 = .ok (.iload 5, 2) := by decide +kernel
theorem dX4_writeStrange_27 : decode cX4_writeStrange 27 = .ok (.invokevirtual 118, 3) := by decide +kernel
theorem dX4_writeStrange_30 : decode cX4_writeStrange 30 = .ok (.ifCond .eq 51, 3) := by decide +kernel
theorem dX4_writeStrange_33 : decode cX4_writeStrange 33 = .ok (.iload_n 3, 1) := by decide +kernel
theorem dX4_writeStrange_34 : decode cX4_writeStrange 34 = .ok (.ifCond .ne 44, 3) := by decide +kernel
theorem dX4_writeStrange_37 : decode cX4_writeStrange 37 = .ok (.aload_n 2, 1) := by decide +kernel
theorem dX4_writeStrange_38 : decode cX4_writeStrange 38 = .ok (.bipush 97, 2) := by decide +kernel
theorem dX4_writeStrange_40 : decode cX4_writeStrange 40 = .ok (.iload 4, 2) := by decide +kernel
theorem dX4_writeStrange_42 : decode cX4_writeStrange 42 = .ok (.iadd, 1) := by decide +kernel
theorem dX4_writeStrange_43 : decode cX4_writeStrange 43 = .ok (.i2c, 1) := by decide +kernel
theorem dX4_writeStrange_44 : decode cX4_writeStrange 44 = .ok (.invokevirtual 147, 3) := by decide +kernel
theorem dX4_writeStrange_47 : decode cX4_writeStrange 47 = .ok (.bipush 97, 2) := by decide +kernel
theorem dX4_writeStrange_49 : decode cX4_writeStrange 49 = .ok (.iload 5, 2) := by decide +kernel
theorem dX4_writeStrange_51 : decode cX4_writeStrange 51 = .ok (.iadd, 1) := by decide +kernel
theorem dX4_writeStrange_52 : decode cX4_writeStrange 52 = .ok (.i2c, 1) := by decide +kernel
theorem dX4_writeStrange_53 : decode cX4_writeStrange 53 = .ok (.invokevirtual 147, 3) := by decide +kernel
theorem dX4_writeStrange_56 : decode cX4_writeStrange 56 = .ok (.pop, 1) := by decide +kernel
theorem dX4_writeStrange_57 : decode cX4_writeStrange 57 = .ok (.aload_n 2, 1) := by decide +kernel
theorem dX4_writeStrange_58 : decode cX4_writeStrange 58 = .ok (.bipush 32, 2) := by decide +kernel
theorem dX4_writeStrange_60 : decode cX4_writeStrange 60 = .ok (.invokevirtual 147, 3) := by decide +kernel
theorem dX4_writeStrange_63 : decode cX4_writeStrange 63 = .ok (.aload_n 0, 1) := by decide +kernel
theorem dX4_writeStrange_64 : decode cX4_writeStrange 64 = .ok (.getfield 50, 3) := by decide +kernel
theorem dX4_writeStrange_67 : decode cX4_writeStrange 67 = .ok (.iload 4, 2) := by decide +kernel
theorem dX4_writeStrange_69 : decode cX4_writeStrange 69 = .ok (.iload 5, 2) := by decide +kernel
theorem dX4_writeStrange_71 : decode cX4_writeStrange 71 = .ok (.invokevirtual 70, 3) := by decide +kernel
theorem dX4_writeStrange_74 : decode cX4_writeStrange 74 = .ok (.invokevirtual 141, 3) := by decide +kernel
theorem dX4_writeStrange_77 : decode cX4_writeStrange 77 = .ok (.pop, 1) := by decide +kernel
theorem dX4_writeStrange_78 : decode cX4_writeStrange 78 = .ok (.iinc 3 (-1), 3) := by decide +kernel
theorem dX4_writeStrange_81 : decode cX4_writeStrange 81 = .ok (.iinc 5 1, 3) := by decide +kernel
theorem dX4_writeStrange_84 : decode cX4_writeStrange 84 = .ok (.goto (-69), 3) := by decide +kernel
theorem dX4_writeStrange_87 : decode cX4_writeStrange 87 = .ok (.iinc 4 1, 3) := by decide +kernel
theorem dX4_writeStrange_90 : decode cX4_writeStrange 90 = .ok (.goto (-85), 3) := by decide +kernel
theorem dX4_writeStrange_93 : decode cX4_writeStrange 93 = .ok (.return_, 1) := by decide +kernel
