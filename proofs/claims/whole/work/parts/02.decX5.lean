theorem dX5_init_0 : decode cX5_init 0 = .ok (.aload_n 0, 1) := by decide +kernel
theorem dX5_init_1 : decode cX5_init 1 = .ok (.invokespecial 3, 3) := by decide +kernel
theorem dX5_init_4 : decode cX5_init 4 = .ok (.aload_n 0, 1) := by decide +kernel
theorem dX5_init_5 : decode cX5_init 5 = .ok (.iconst 0, 1) := by decide +kernel
theorem dX5_init_6 : decode cX5_init 6 = .ok (.putfield 9, 3) := by decide +kernel
theorem dX5_init_9 : decode cX5_init 9 = .ok (.aload_n 0, 1) := by decide +kernel
theorem dX5_init_10 : decode cX5_init 10 = .ok (.bipush 16, 2) := by decide +kernel
theorem dX5_init_12 : decode cX5_init 12 = .ok (.newarray .int, 2) := by decide +kernel
theorem dX5_init_14 : decode cX5_init 14 = .ok (.putfield 15, 3) := by decide +kernel
theorem dX5_init_17 : decode cX5_init 17 = .ok (.aload_n 0, 1) := by decide +kernel
theorem dX5_init_18 : decode cX5_init 18 = .ok (.bipush 8, 2) := by decide +kernel
theorem dX5_init_20 : decode cX5_init 20 = .ok (.newarray .int, 2) := by decide +kernel
theorem dX5_init_22 : decode cX5_init 22 = .ok (.putfield 19, 3) := by decide +kernel
theorem dX5_init_25 : decode cX5_init 25 = .ok (.aload_n 0, 1) := by decide +kernel
theorem dX5_init_26 : decode cX5_init 26 = .ok (.iconst 5, 1) := by decide +kernel
theorem dX5_init_27 : decode cX5_init 27 = .ok (.newarray .int, 2) := by decide +kernel
theorem dX5_init_29 : decode cX5_init 29 = .ok (.dup, 1) := by decide +kernel
theorem dX5_init_30 : decode cX5_init 30 = .ok (.iconst 0, 1) := by decide +kernel
theorem dX5_init_31 : decode cX5_init 31 = .ok (.iconst 4, 1) := by decide +kernel
theorem dX5_init_32 : decode cX5_init 32 = .ok (.iastore, 1) := by decide +kernel
theorem dX5_init_33 : decode cX5_init 33 = .ok (.dup, 1) := by decide +kernel
theorem dX5_init_34 : decode cX5_init 34 = .ok (.iconst 1, 1) := by decide +kernel
theorem dX5_init_35 : decode cX5_init 35 = .ok (.iconst 2, 1) := by decide +kernel
theorem dX5_init_36 : decode cX5_init 36 = .ok (.iastore, 1) := by decide +kernel
theorem dX5_init_37 : decode cX5_init 37 = .ok (.dup, 1) := by decide +kernel
theorem dX5_init_38 : decode cX5_init 38 = .ok (.iconst 2, 1) := by decide +kernel
theorem dX5_init_39 : decode cX5_init 39 = .ok (.bipush 9, 2) := by decide +kernel
theorem dX5_init_41 : decode cX5_init 41 = .ok (.iastore, 1) := by decide +kernel
theorem dX5_init_42 : decode cX5_init 42 = .ok (.dup, 1) := by decide +kernel
theorem dX5_init_43 : decode cX5_init 43 = .ok (.iconst 3, 1) := by decide +kernel
theorem dX5_init_44 : decode cX5_init 44 = .ok (.bipush 30, 2) := by decide +kernel
theorem dX5_init_46 : decode cX5_init 46 = .ok (.iastore, 1) := by decide +kernel
theorem dX5_init_47 : decode cX5_init 47 = .ok (.dup, 1) := by decide +kernel
theorem dX5_init_48 : decode cX5_init 48 = .ok (.iconst 4, 1) := by decide +kernel
theorem dX5_init_49 : decode cX5_init 49 = .ok (.iconst 0, 1) := by decide +kernel
theorem dX5_init_50 : decode cX5_init 50 = .ok (.iastore, 1) := by decide +kernel
theorem dX5_init_51 : decode cX5_init 51 = .ok (.putfield 22, 3) := by decide +kernel
theorem dX5_init_54 : decode cX5_init 54 = .ok (.aload_n 0, 1) := by decide +kernel
theorem dX5_init_55 : decode cX5_init 55 = .ok (.bipush 64, 2) := by decide +kernel
theorem dX5_init_57 : decode cX5_init 57 = .ok (.newarray .int, 2) := by decide +kernel
theorem dX5_init_59 : decode cX5_init 59 = .ok (.putfield 25, 3) := by decide +kernel
theorem dX5_init_62 : decode cX5_init 62 = .ok (.aload_n 0, 1) := by decide +kernel
theorem dX5_init_63 : decode cX5_init 63 = .ok (.iconst 0, 1) := by decide +kernel
theorem dX5_init_64 : decode cX5_init 64 = .ok (.putfield 28, 3) := by decide +kernel
theorem dX5_init_67 : decode cX5_init 67 = .ok (.iconst 0, 1) := by decide +kernel
theorem dX5_init_68 : decode cX5_init 68 = .ok (.istore_n 1, 1) := by decide +kernel
theorem dX5_init_69 : decode cX5_init 69 = .ok (.iload_n 1, 1) := by decide +kernel
theorem dX5_init_70 : decode cX5_init 70 = .ok (.aload_n 0, 1) := by decide +kernel
theorem dX5_init_71 : decode cX5_init 71 = .ok (.getfield 25, 3) := by decide +kernel
theorem dX5_init_74 : decode cX5_init 74 = .ok (.arraylength, 1) := by decide +kernel
theorem dX5_init_75 : decode cX5_init 75 = .ok (.if_icmp .ge 18, 3) := by decide +kernel
theorem dX5_init_78 : decode cX5_init 78 = .ok (.aload_n 0, 1) := by decide +kernel
theorem dX5_init_79 : decode cX5_init 79 = .ok (.getfield 25, 3) := by decide +kernel
theorem dX5_init_82 : decode cX5_init 82 = .ok (.iload_n 1, 1) := by decide +kernel
theorem dX5_init_83 : decode cX5_init 83 = .ok (.sipush 1000, 3) := by decide +kernel
theorem dX5_init_86 : decode cX5_init 86 = .ok (.iastore, 1) := by decide +kernel
theorem dX5_init_87 : decode cX5_init 87 = .ok (.iinc 1 1, 3) := by decide +kernel
theorem dX5_init_90 : decode cX5_init 90 = .ok (.goto (-21), 3) := by decide +kernel
theorem dX5_init_93 : decode cX5_init 93 = .ok (.return_, 1) := by decide +kernel
theorem dX5_copyFrom_0 : decode cX5_copyFrom 0 = .ok (.aload_n 0, 1) := by decide +kernel
theorem dX5_copyFrom_1 : decode cX5_copyFrom 1 = .ok (.aload_n 1, 1) := by decide +kernel
theorem dX5_copyFrom_2 : decode cX5_copyFrom 2 = .ok (.getfield 9, 3) := by decide +kernel
theorem dX5_copyFrom_5 : decode cX5_copyFrom 5 = .ok (.putfield 9, 3) := by decide +kernel
theorem dX5_copyFrom_8 : decode cX5_copyFrom 8 = .ok (.aload_n 1, 1) := by decide +kernel
theorem dX5_copyFrom_9 : decode cX5_copyFrom 9 = .ok (.getfield 15, 3) := by decide +kernel
theorem dX5_copyFrom_12 : decode cX5_copyFrom 12 = .ok (.iconst 0, 1) := by decide +kernel
theorem dX5_copyFrom_13 : decode cX5_copyFrom 13 = .ok (.aload_n 0, 1) := by decide +kernel
theorem dX5_copyFrom_14 : decode cX5_copyFrom 14 = .ok (.getfield 15, 3) := by decide +kernel
theorem dX5_copyFrom_17 : decode cX5_copyFrom 17 = .ok (.iconst 0, 1) := by decide +kernel
theorem dX5_copyFrom_18 : decode cX5_copyFrom 18 = .ok (.aload_n 0, 1) := by decide +kernel
theorem dX5_copyFrom_19 : decode cX5_copyFrom 19 = .ok (.getfield 15, 3) := by decide +kernel
theorem dX5_copyFrom_22 : decode cX5_copyFrom 22 = .ok (.arraylength, 1) := by decide +kernel
theorem dX5_copyFrom_23 : decode cX5_copyFrom 23 = .ok (.invokestatic 31, 3) := by decide +kernel
theorem dX5_copyFrom_26 : decode cX5_copyFrom 26 = .ok (.aload_n 1, 1) := by decide +kernel
theorem dX5_copyFrom_27 : decode cX5_copyFrom 27 = .ok (.getfield 19, 3) := by decide +kernel
theorem dX5_copyFrom_30 : decode cX5_copyFrom 30 = .ok (.iconst 0, 1) := by decide +kernel
theorem dX5_copyFrom_31 : decode cX5_copyFrom 31 = .ok (.aload_n 0, 1) := by decide +kernel
theorem dX5_copyFrom_32 : decode cX5_copyFrom 32 = .ok (.getfield 19, 3) := by decide +kernel
theorem dX5_copyFrom_35 : decode cX5_copyFrom 35 = .ok (.iconst 0, 1) := by decide +kernel
theorem dX5_copyFrom_36 : decode cX5_copyFrom 36 = .ok (.aload_n 0, 1) := by decide +kernel
theorem dX5_copyFrom_37 : decode cX5_copyFrom 37 = .ok (.getfield 19, 3) := by decide +kernel
theorem dX5_copyFrom_40 : decode cX5_copyFrom 40 = .ok (.arraylength, 1) := by decide +kernel
theorem dX5_copyFrom_41 : decode cX5_copyFrom 41 = .ok (.invokestatic 31, 3) := by decide +kernel
theorem dX5_copyFrom_44 : decode cX5_copyFrom 44 = .ok (.aload_n 1, 1) := by decide +kernel
theorem dX5_copyFrom_45 : decode cX5_copyFrom 45 = .ok (.getfield 22, 3) := by decide +kernel
theorem dX5_copyFrom_48 : decode cX5_copyFrom 48 = .ok (.iconst 0, 1) := by decide +kernel
theorem dX5_copyFrom_49 : decode cX5_copyFrom 49 = .ok (.aload_n 0, 1) := by decide +kernel
theorem dX5_copyFrom_50 : decode cX5_copyFrom 50 = .ok (.getfield 22, 3) := by decide +kernel
theorem dX5_copyFrom_53 : decode cX5_copyFrom 53 = .ok (.iconst 0, 1) := by decide +kernel
theorem dX5_copyFrom_54 : decode cX5_copyFrom 54 = .ok (.aload_n 0, 1) := by decide +kernel
theorem dX5_copyFrom_55 : decode cX5_copyFrom 55 = .ok (.getfield 22, 3) := by decide +kernel
theorem dX5_copyFrom_58 : decode cX5_copyFrom 58 = .ok (.arraylength, 1) := by decide +kernel
theorem dX5_copyFrom_59 : decode cX5_copyFrom 59 = .ok (.invokestatic 31, 3) := by decide +kernel
theorem dX5_copyFrom_62 : decode cX5_copyFrom 62 = .ok (.aload_n 1, 1) := by decide +kernel
theorem dX5_copyFrom_63 : decode cX5_copyFrom 63 = .ok (.getfield 25, 3) := by decide +kernel
theorem dX5_copyFrom_66 : decode cX5_copyFrom 66 = .ok (.iconst 0, 1) := by decide +kernel
theorem dX5_copyFrom_67 : decode cX5_copyFrom 67 = .ok (.aload_n 0, 1) := by decide +kernel
theorem dX5_copyFrom_68 : decode cX5_copyFrom 68 = .ok (.getfield 25, 3) := by decide +kernel
theorem dX5_copyFrom_71 : decode cX5_copyFrom 71 = .ok (.iconst 0, 1) := by decide +kernel
theorem dX5_copyFrom_72 : decode cX5_copyFrom 72 = .ok (.aload_n 0, 1) := by decide +kernel
theorem dX5_copyFrom_73 : decode cX5_copyFrom 73 = .ok (.getfield 25, 3) := by decide +kernel
theorem dX5_copyFrom_76 : decode cX5_copyFrom 76 = .ok (.arraylength, 1) := by decide +kernel
theorem dX5_copyFrom_77 : decode cX5_copyFrom 77 = .ok (.invokestatic 31, 3) := by decide +kernel
theorem dX5_copyFrom_80 : decode cX5_copyFrom 80 = .ok (.aload_n 0, 1) := by decide +kernel
theorem dX5_copyFrom_81 : decode cX5_copyFrom 81 = .ok (.dup, 1) := by decide +kernel
theorem dX5_copyFrom_82 : decode cX5_copyFrom 82 = .ok (.getfield 28, 3) := by decide +kernel
theorem dX5_copyFrom_85 : decode cX5_copyFrom 85 = .ok (.iconst 1, 1) := by decide +kernel
theorem dX5_copyFrom_86 : decode cX5_copyFrom 86 = .ok (.iadd, 1) := by decide +kernel
theorem dX5_copyFrom_87 : decode cX5_copyFrom 87 = .ok (.putfield 28, 3) := by decide +kernel
theorem dX5_copyFrom_90 : decode cX5_copyFrom 90 = .ok (.return_, 1) := by decide +kernel
theorem dX5_knows_0 : decode cX5_knows 0 = .ok (.iload_n 1, 1) := by decide +kernel
theorem dX5_knows_1 : decode cX5_knows 1 = .ok (.ifCond .lt 25, 3) := by decide +kernel
theorem dX5_knows_4 : decode cX5_knows 4 = .ok (.iload_n 1, 1) := by decide +kernel
theorem dX5_knows_5 : decode cX5_knows 5 = .ok (.bipush 8, 2) := by decide +kernel
theorem dX5_knows_7 : decode cX5_knows 7 = .ok (.if_icmp .ge 19, 3) := by decide +kernel
theorem dX5_knows_10 : decode cX5_knows 10 = .ok (.aload_n 0, 1) := by decide +kernel
theorem dX5_knows_11 : decode cX5_knows 11 = .ok (.getfield 9, 3) := by decide +kernel
theorem dX5_knows_14 : decode cX5_knows 14 = .ok (.iload_n 1, 1) := by decide +kernel
theorem dX5_knows_15 : decode cX5_knows 15 = .ok (.ishr, 1) := by decide +kernel
theorem dX5_knows_16 : decode cX5_knows 16 = .ok (.iconst 1, 1) := by decide +kernel
theorem dX5_knows_17 : decode cX5_knows 17 = .ok (.iand, 1) := by decide +kernel
theorem dX5_knows_18 : decode cX5_knows 18 = .ok (.iconst 1, 1) := by decide +kernel
theorem dX5_knows_19 : decode cX5_knows 19 = .ok (.if_icmp .ne 7, 3) := by decide +kernel
theorem dX5_knows_22 : decode cX5_knows 22 = .ok (.iconst 1, 1) := by decide +kernel
theorem dX5_knows_23 : decode cX5_knows 23 = .ok (.goto 4, 3) := by decide +kernel
theorem dX5_knows_26 : decode cX5_knows 26 = .ok (.iconst 0, 1) := by decide +kernel
theorem dX5_knows_27 : decode cX5_knows 27 = .ok (.ireturn, 1) := by decide +kernel
theorem dX5_knowsBoth_0 : decode cX5_knowsBoth 0 = .ok (.aload_n 0, 1) := by decide +kernel
theorem dX5_knowsBoth_1 : decode cX5_knowsBoth 1 = .ok (.iload_n 1, 1) := by decide +kernel
theorem dX5_knowsBoth_2 : decode cX5_knowsBoth 2 = .ok (.invokevirtual 37, 3) := by decide +kernel
theorem dX5_knowsBoth_5 : decode cX5_knowsBoth 5 = .ok (.ifCond .eq 15, 3) := by decide +kernel
theorem dX5_knowsBoth_8 : decode cX5_knowsBoth 8 = .ok (.aload_n 0, 1) := by decide +kernel
theorem dX5_knowsBoth_9 : decode cX5_knowsBoth 9 = .ok (.iload_n 2, 1) := by decide +kernel
theorem dX5_knowsBoth_10 : decode cX5_knowsBoth 10 = .ok (.invokevirtual 37, 3) := by decide +kernel
theorem dX5_knowsBoth_13 : decode cX5_knowsBoth 13 = .ok (.ifCond .eq 7, 3) := by decide +kernel
theorem dX5_knowsBoth_16 : decode cX5_knowsBoth 16 = .ok (.iconst 1, 1) := by decide +kernel
theorem dX5_knowsBoth_17 : decode cX5_knowsBoth 17 = .ok (.goto 4, 3) := by decide +kernel
theorem dX5_knowsBoth_20 : decode cX5_knowsBoth 20 = .ok (.iconst 0, 1) := by decide +kernel
theorem dX5_knowsBoth_21 : decode cX5_knowsBoth 21 = .ok (.ireturn, 1) := by decide +kernel
theorem dX5_countKnown_0 : decode cX5_countKnown 0 = .ok (.aload_n 0, 1) := by decide +kernel
theorem dX5_countKnown_1 : decode cX5_countKnown 1 = .ok (.getfield 9, 3) := by decide +kernel
theorem dX5_countKnown_4 : decode cX5_countKnown 4 = .ok (.invokestatic 41, 3) := by decide +kernel
theorem dX5_countKnown_7 : decode cX5_countKnown 7 = .ok (.ireturn, 1) := by decide +kernel
theorem dX5_learn_0 : decode cX5_learn 0 = .ok (.aload_n 0, 1) := by decide +kernel
theorem dX5_learn_1 : decode cX5_learn 1 = .ok (.dup, 1) := by decide +kernel
theorem dX5_learn_2 : decode cX5_learn 2 = .ok (.getfield 9, 3) := by decide +kernel
theorem dX5_learn_5 : decode cX5_learn 5 = .ok (.iconst 1, 1) := by decide +kernel
theorem dX5_learn_6 : decode cX5_learn 6 = .ok (.iload_n 1, 1) := by decide +kernel
theorem dX5_learn_7 : decode cX5_learn 7 = .ok (.ishl, 1) := by decide +kernel
theorem dX5_learn_8 : decode cX5_learn 8 = .ok (.ior, 1) := by decide +kernel
theorem dX5_learn_9 : decode cX5_learn 9 = .ok (.putfield 9, 3) := by decide +kernel
theorem dX5_learn_12 : decode cX5_learn 12 = .ok (.aload_n 0, 1) := by decide +kernel
theorem dX5_learn_13 : decode cX5_learn 13 = .ok (.getfield 15, 3) := by decide +kernel
theorem dX5_learn_16 : decode cX5_learn 16 = .ok (.iconst 0, 1) := by decide +kernel
theorem dX5_learn_17 : decode cX5_learn 17 = .ok (.iload_n 1, 1) := by decide +kernel
theorem dX5_learn_18 : decode cX5_learn 18 = .ok (.iadd, 1) := by decide +kernel
theorem dX5_learn_19 : decode cX5_learn 19 = .ok (.iload_n 2, 1) := by decide +kernel
theorem dX5_learn_20 : decode cX5_learn 20 = .ok (.iastore, 1) := by decide +kernel
theorem dX5_learn_21 : decode cX5_learn 21 = .ok (.aload_n 0, 1) := by decide +kernel
theorem dX5_learn_22 : decode cX5_learn 22 = .ok (.getfield 15, 3) := by decide +kernel
theorem dX5_learn_25 : decode cX5_learn 25 = .ok (.bipush 8, 2) := by decide +kernel
theorem dX5_learn_27 : decode cX5_learn 27 = .ok (.iload_n 1, 1) := by decide +kernel
theorem dX5_learn_28 : decode cX5_learn 28 = .ok (.iadd, 1) := by decide +kernel
theorem dX5_learn_29 : decode cX5_learn 29 = .ok (.iload_n 3, 1) := by decide +kernel
theorem dX5_learn_30 : decode cX5_learn 30 = .ok (.iastore, 1) := by decide +kernel
theorem dX5_learn_31 : decode cX5_learn 31 = .ok (.aload_n 0, 1) := by decide +kernel
theorem dX5_learn_32 : decode cX5_learn 32 = .ok (.getfield 19, 3) := by decide +kernel
theorem dX5_learn_35 : decode cX5_learn 35 = .ok (.iload_n 1, 1) := by decide +kernel
theorem dX5_learn_36 : decode cX5_learn 36 = .ok (.iload 4, 2) := by decide +kernel
theorem dX5_learn_38 : decode cX5_learn 38 = .ok (.iastore, 1) := by decide +kernel
theorem dX5_learn_39 : decode cX5_learn 39 = .ok (.aload_n 0, 1) := by decide +kernel
theorem dX5_learn_40 : decode cX5_learn 40 = .ok (.dup, 1) := by decide +kernel
theorem dX5_learn_41 : decode cX5_learn 41 = .ok (.getfield 28, 3) := by decide +kernel
theorem dX5_learn_44 : decode cX5_learn 44 = .ok (.iconst 1, 1) := by decide +kernel
theorem dX5_learn_45 : decode cX5_learn 45 = .ok (.iadd, 1) := by decide +kernel
theorem dX5_learn_46 : decode cX5_learn 46 = .ok (.putfield 28, 3) := by decide +kernel
theorem dX5_learn_49 : decode cX5_learn 49 = .ok (.return_, 1) := by decide +kernel
theorem dX5_drop_0 : decode cX5_drop 0 = .ok (.aload_n 0, 1) := by decide +kernel
theorem dX5_drop_1 : decode cX5_drop 1 = .ok (.dup, 1) := by decide +kernel
theorem dX5_drop_2 : decode cX5_drop 2 = .ok (.getfield 9, 3) := by decide +kernel
theorem dX5_drop_5 : decode cX5_drop 5 = .ok (.iconst 1, 1) := by decide +kernel
theorem dX5_drop_6 : decode cX5_drop 6 = .ok (.iload_n 1, 1) := by decide +kernel
theorem dX5_drop_7 : decode cX5_drop 7 = .ok (.ishl, 1) := by decide +kernel
theorem dX5_drop_8 : decode cX5_drop 8 = .ok (.iconst (-1), 1) := by decide +kernel
theorem dX5_drop_9 : decode cX5_drop 9 = .ok (.ixor, 1) := by decide +kernel
theorem dX5_drop_10 : decode cX5_drop 10 = .ok (.iand, 1) := by decide +kernel
theorem dX5_drop_11 : decode cX5_drop 11 = .ok (.putfield 9, 3) := by decide +kernel
theorem dX5_drop_14 : decode cX5_drop 14 = .ok (.iconst 0, 1) := by decide +kernel
theorem dX5_drop_15 : decode cX5_drop 15 = .ok (.istore_n 2, 1) := by decide +kernel
theorem dX5_drop_16 : decode cX5_drop 16 = .ok (.iload_n 2, 1) := by decide +kernel
theorem dX5_drop_17 : decode cX5_drop 17 = .ok (.bipush 8, 2) := by decide +kernel
theorem dX5_drop_19 : decode cX5_drop 19 = .ok (.if_icmp .ge 37, 3) := by decide +kernel
theorem dX5_drop_22 : decode cX5_drop 22 = .ok (.aload_n 0, 1) := by decide +kernel
theorem dX5_drop_23 : decode cX5_drop 23 = .ok (.getfield 25, 3) := by decide +kernel
theorem dX5_drop_26 : decode cX5_drop 26 = .ok (.iload_n 1, 1) := by decide +kernel
theorem dX5_drop_27 : decode cX5_drop 27 = .ok (.bipush 8, 2) := by decide +kernel
theorem dX5_drop_29 : decode cX5_drop 29 = .ok (.imul, 1) := by decide +kernel
theorem dX5_drop_30 : decode cX5_drop 30 = .ok (.iload_n 2, 1) := by decide +kernel
theorem dX5_drop_31 : decode cX5_drop 31 = .ok (.iadd, 1) := by decide +kernel
theorem dX5_drop_32 : decode cX5_drop 32 = .ok (.sipush 1000, 3) := by decide +kernel
theorem dX5_drop_35 : decode cX5_drop 35 = .ok (.iastore, 1) := by decide +kernel
theorem dX5_drop_36 : decode cX5_drop 36 = .ok (.aload_n 0, 1) := by decide +kernel
theorem dX5_drop_37 : decode cX5_drop 37 = .ok (.getfield 25, 3) := by decide +kernel
theorem dX5_drop_40 : decode cX5_drop 40 = .ok (.iload_n 2, 1) := by decide +kernel
theorem dX5_drop_41 : decode cX5_drop 41 = .ok (.bipush 8, 2) := by decide +kernel
theorem dX5_drop_43 : decode cX5_drop 43 = .ok (.imul, 1) := by decide +kernel
theorem dX5_drop_44 : decode cX5_drop 44 = .ok (.iload_n 1, 1) := by decide +kernel
theorem dX5_drop_45 : decode cX5_drop 45 = .ok (.iadd, 1) := by decide +kernel
theorem dX5_drop_46 : decode cX5_drop 46 = .ok (.sipush 1000, 3) := by decide +kernel
theorem dX5_drop_49 : decode cX5_drop 49 = .ok (.iastore, 1) := by decide +kernel
theorem dX5_drop_50 : decode cX5_drop 50 = .ok (.iinc 2 1, 3) := by decide +kernel
theorem dX5_drop_53 : decode cX5_drop 53 = .ok (.goto (-37), 3) := by decide +kernel
theorem dX5_drop_56 : decode cX5_drop 56 = .ok (.aload_n 0, 1) := by decide +kernel
theorem dX5_drop_57 : decode cX5_drop 57 = .ok (.dup, 1) := by decide +kernel
theorem dX5_drop_58 : decode cX5_drop 58 = .ok (.getfield 28, 3) := by decide +kernel
theorem dX5_drop_61 : decode cX5_drop 61 = .ok (.iconst 1, 1) := by decide +kernel
theorem dX5_drop_62 : decode cX5_drop 62 = .ok (.iadd, 1) := by decide +kernel
theorem dX5_drop_63 : decode cX5_drop 63 = .ok (.putfield 28, 3) := by decide +kernel
theorem dX5_drop_66 : decode cX5_drop 66 = .ok (.return_, 1) := by decide +kernel
theorem dX5_setGap_0 : decode cX5_setGap 0 = .ok (.aload_n 0, 1) := by decide +kernel
theorem dX5_setGap_1 : decode cX5_setGap 1 = .ok (.getfield 25, 3) := by decide +kernel
theorem dX5_setGap_4 : decode cX5_setGap 4 = .ok (.iload_n 1, 1) := by decide +kernel
theorem dX5_setGap_5 : decode cX5_setGap 5 = .ok (.bipush 8, 2) := by decide +kernel
theorem dX5_setGap_7 : decode cX5_setGap 7 = .ok (.imul, 1) := by decide +kernel
theorem dX5_setGap_8 : decode cX5_setGap 8 = .ok (.iload_n 2, 1) := by decide +kernel
theorem dX5_setGap_9 : decode cX5_setGap 9 = .ok (.iadd, 1) := by decide +kernel
theorem dX5_setGap_10 : decode cX5_setGap 10 = .ok (.iload_n 3, 1) := by decide +kernel
theorem dX5_setGap_11 : decode cX5_setGap 11 = .ok (.iastore, 1) := by decide +kernel
theorem dX5_setGap_12 : decode cX5_setGap 12 = .ok (.aload_n 0, 1) := by decide +kernel
theorem dX5_setGap_13 : decode cX5_setGap 13 = .ok (.dup, 1) := by decide +kernel
theorem dX5_setGap_14 : decode cX5_setGap 14 = .ok (.getfield 28, 3) := by decide +kernel
theorem dX5_setGap_17 : decode cX5_setGap 17 = .ok (.iconst 1, 1) := by decide +kernel
theorem dX5_setGap_18 : decode cX5_setGap 18 = .ok (.iadd, 1) := by decide +kernel
theorem dX5_setGap_19 : decode cX5_setGap 19 = .ok (.putfield 28, 3) := by decide +kernel
theorem dX5_setGap_22 : decode cX5_setGap 22 = .ok (.return_, 1) := by decide +kernel
theorem dX5_setTerm_0 : decode cX5_setTerm 0 = .ok (.aload_n 0, 1) := by decide +kernel
theorem dX5_setTerm_1 : decode cX5_setTerm 1 = .ok (.getfield 22, 3) := by decide +kernel
theorem dX5_setTerm_4 : decode cX5_setTerm 4 = .ok (.iload_n 1, 1) := by decide +kernel
theorem dX5_setTerm_5 : decode cX5_setTerm 5 = .ok (.iload_n 2, 1) := by decide +kernel
theorem dX5_setTerm_6 : decode cX5_setTerm 6 = .ok (.iastore, 1) := by decide +kernel
theorem dX5_setTerm_7 : decode cX5_setTerm 7 = .ok (.aload_n 0, 1) := by decide +kernel
theorem dX5_setTerm_8 : decode cX5_setTerm 8 = .ok (.dup, 1) := by decide +kernel
theorem dX5_setTerm_9 : decode cX5_setTerm 9 = .ok (.getfield 28, 3) := by decide +kernel
theorem dX5_setTerm_12 : decode cX5_setTerm 12 = .ok (.iconst 1, 1) := by decide +kernel
theorem dX5_setTerm_13 : decode cX5_setTerm 13 = .ok (.iadd, 1) := by decide +kernel
theorem dX5_setTerm_14 : decode cX5_setTerm 14 = .ok (.putfield 28, 3) := by decide +kernel
theorem dX5_setTerm_17 : decode cX5_setTerm 17 = .ok (.return_, 1) := by decide +kernel
theorem dX5_isJudged_0 : decode cX5_isJudged 0 = .ok (.aload_n 0, 1) := by decide +kernel
theorem dX5_isJudged_1 : decode cX5_isJudged 1 = .ok (.getfield 25, 3) := by decide +kernel
theorem dX5_isJudged_4 : decode cX5_isJudged 4 = .ok (.iload_n 1, 1) := by decide +kernel
theorem dX5_isJudged_5 : decode cX5_isJudged 5 = .ok (.bipush 8, 2) := by decide +kernel
theorem dX5_isJudged_7 : decode cX5_isJudged 7 = .ok (.imul, 1) := by decide +kernel
theorem dX5_isJudged_8 : decode cX5_isJudged 8 = .ok (.iload_n 2, 1) := by decide +kernel
theorem dX5_isJudged_9 : decode cX5_isJudged 9 = .ok (.iadd, 1) := by decide +kernel
theorem dX5_isJudged_10 : decode cX5_isJudged 10 = .ok (.iaload, 1) := by decide +kernel
theorem dX5_isJudged_11 : decode cX5_isJudged 11 = .ok (.sipush 1000, 3) := by decide +kernel
theorem dX5_isJudged_14 : decode cX5_isJudged 14 = .ok (.if_icmp .eq 7, 3) := by decide +kernel
theorem dX5_isJudged_17 : decode cX5_isJudged 17 = .ok (.iconst 1, 1) := by decide +kernel
theorem dX5_isJudged_18 : decode cX5_isJudged 18 = .ok (.goto 4, 3) := by decide +kernel
theorem dX5_isJudged_21 : decode cX5_isJudged 21 = .ok (.iconst 0, 1) := by decide +kernel
theorem dX5_isJudged_22 : decode cX5_isJudged 22 = .ok (.ireturn, 1) := by decide +kernel
theorem dX5_judgedGap_0 : decode cX5_judgedGap 0 = .ok (.aload_n 0, 1) := by decide +kernel
theorem dX5_judgedGap_1 : decode cX5_judgedGap 1 = .ok (.getfield 25, 3) := by decide +kernel
theorem dX5_judgedGap_4 : decode cX5_judgedGap 4 = .ok (.iload_n 1, 1) := by decide +kernel
theorem dX5_judgedGap_5 : decode cX5_judgedGap 5 = .ok (.bipush 8, 2) := by decide +kernel
theorem dX5_judgedGap_7 : decode cX5_judgedGap 7 = .ok (.imul, 1) := by decide +kernel
theorem dX5_judgedGap_8 : decode cX5_judgedGap 8 = .ok (.iload_n 2, 1) := by decide +kernel
theorem dX5_judgedGap_9 : decode cX5_judgedGap 9 = .ok (.iadd, 1) := by decide +kernel
theorem dX5_judgedGap_10 : decode cX5_judgedGap 10 = .ok (.iaload, 1) := by decide +kernel
theorem dX5_judgedGap_11 : decode cX5_judgedGap 11 = .ok (.ireturn, 1) := by decide +kernel
theorem dX5_countJudged_0 : decode cX5_countJudged 0 = .ok (.iconst 0, 1) := by decide +kernel
theorem dX5_countJudged_1 : decode cX5_countJudged 1 = .ok (.istore_n 1, 1) := by decide +kernel
theorem dX5_countJudged_2 : decode cX5_countJudged 2 = .ok (.iconst 0, 1) := by decide +kernel
theorem dX5_countJudged_3 : decode cX5_countJudged 3 = .ok (.istore_n 2, 1) := by decide +kernel
theorem dX5_countJudged_4 : decode cX5_countJudged 4 = .ok (.iload_n 2, 1) := by decide +kernel
theorem dX5_countJudged_5 : decode cX5_countJudged 5 = .ok (.aload_n 0, 1) := by decide +kernel
theorem dX5_countJudged_6 : decode cX5_countJudged 6 = .ok (.getfield 25, 3) := by decide +kernel
theorem dX5_countJudged_9 : decode cX5_countJudged 9 = .ok (.arraylength, 1) := by decide +kernel
theorem dX5_countJudged_10 : decode cX5_countJudged 10 = .ok (.if_icmp .ge 24, 3) := by decide +kernel
theorem dX5_countJudged_13 : decode cX5_countJudged 13 = .ok (.aload_n 0, 1) := by decide +kernel
theorem dX5_countJudged_14 : decode cX5_countJudged 14 = .ok (.getfield 25, 3) := by decide +kernel
theorem dX5_countJudged_17 : decode cX5_countJudged 17 = .ok (.iload_n 2, 1) := by decide +kernel
theorem dX5_countJudged_18 : decode cX5_countJudged 18 = .ok (.iaload, 1) := by decide +kernel
theorem dX5_countJudged_19 : decode cX5_countJudged 19 = .ok (.sipush 1000, 3) := by decide +kernel
theorem dX5_countJudged_22 : decode cX5_countJudged 22 = .ok (.if_icmp .eq 6, 3) := by decide +kernel
theorem dX5_countJudged_25 : decode cX5_countJudged 25 = .ok (.iinc 1 1, 3) := by decide +kernel
theorem dX5_countJudged_28 : decode cX5_countJudged 28 = .ok (.iinc 2 1, 3) := by decide +kernel
theorem dX5_countJudged_31 : decode cX5_countJudged 31 = .ok (.goto (-27), 3) := by decide +kernel
theorem dX5_countJudged_34 : decode cX5_countJudged 34 = .ok (.iload_n 1, 1) := by decide +kernel
theorem dX5_countJudged_35 : decode cX5_countJudged 35 = .ok (.ireturn, 1) := by decide +kernel
theorem dX5_figure_0 : decode cX5_figure 0 = .ok (.aload_n 0, 1) := by decide +kernel
theorem dX5_figure_1 : decode cX5_figure 1 = .ok (.getfield 15, 3) := by decide +kernel
theorem dX5_figure_4 : decode cX5_figure 4 = .ok (.iload_n 2, 1) := by decide +kernel
theorem dX5_figure_5 : decode cX5_figure 5 = .ok (.bipush 8, 2) := by decide +kernel
theorem dX5_figure_7 : decode cX5_figure 7 = .ok (.imul, 1) := by decide +kernel
theorem dX5_figure_8 : decode cX5_figure 8 = .ok (.iload_n 1, 1) := by decide +kernel
theorem dX5_figure_9 : decode cX5_figure 9 = .ok (.iadd, 1) := by decide +kernel
theorem dX5_figure_10 : decode cX5_figure 10 = .ok (.iaload, 1) := by decide +kernel
theorem dX5_figure_11 : decode cX5_figure 11 = .ok (.getstatic 47, 3) := by decide +kernel
theorem dX5_figure_14 : decode cX5_figure 14 = .ok (.iload_n 3, 1) := by decide +kernel
theorem dX5_figure_15 : decode cX5_figure 15 = .ok (.iaload, 1) := by decide +kernel
theorem dX5_figure_16 : decode cX5_figure 16 = .ok (.idiv, 1) := by decide +kernel
theorem dX5_figure_17 : decode cX5_figure 17 = .ok (.bipush 10, 2) := by decide +kernel
theorem dX5_figure_19 : decode cX5_figure 19 = .ok (.irem, 1) := by decide +kernel
theorem dX5_figure_20 : decode cX5_figure 20 = .ok (.ireturn, 1) := by decide +kernel
theorem dX5_apart_0 : decode cX5_apart 0 = .ok (.iconst 0, 1) := by decide +kernel
theorem dX5_apart_1 : decode cX5_apart 1 = .ok (.istore 4, 2) := by decide +kernel
theorem dX5_apart_3 : decode cX5_apart 3 = .ok (.iconst 0, 1) := by decide +kernel
theorem dX5_apart_4 : decode cX5_apart 4 = .ok (.istore 5, 2) := by decide +kernel
theorem dX5_apart_6 : decode cX5_apart 6 = .ok (.iconst 0, 1) := by decide +kernel
theorem dX5_apart_7 : decode cX5_apart 7 = .ok (.istore 6, 2) := by decide +kernel
theorem dX5_apart_9 : decode cX5_apart 9 = .ok (.iconst 0, 1) := by decide +kernel
theorem dX5_apart_10 : decode cX5_apart 10 = .ok (.istore 7, 2) := by decide +kernel
theorem dX5_apart_12 : decode cX5_apart 12 = .ok (.iload 7, 2) := by decide +kernel
theorem dX5_apart_14 : decode cX5_apart 14 = .ok (.iconst 5, 1) := by decide +kernel
theorem dX5_apart_15 : decode cX5_apart 15 = .ok (.if_icmp .ge 57, 3) := by decide +kernel
theorem dX5_apart_18 : decode cX5_apart 18 = .ok (.aload_n 0, 1) := by decide +kernel
theorem dX5_apart_19 : decode cX5_apart 19 = .ok (.iload_n 1, 1) := by decide +kernel
theorem dX5_apart_20 : decode cX5_apart 20 = .ok (.iload_n 3, 1) := by decide +kernel
theorem dX5_apart_21 : decode cX5_apart 21 = .ok (.iload 7, 2) := by decide +kernel
theorem dX5_apart_23 : decode cX5_apart 23 = .ok (.invokevirtual 50, 3) := by decide +kernel
theorem dX5_apart_26 : decode cX5_apart 26 = .ok (.aload_n 0, 1) := by decide +kernel
theorem dX5_apart_27 : decode cX5_apart 27 = .ok (.iload_n 2, 1) := by decide +kernel
theorem dX5_apart_28 : decode cX5_apart 28 = .ok (.iload_n 3, 1) := by decide +kernel
theorem dX5_apart_29 : decode cX5_apart 29 = .ok (.iload 7, 2) := by decide +kernel
theorem dX5_apart_31 : decode cX5_apart 31 = .ok (.invokevirtual 50, 3) := by decide +kernel
theorem dX5_apart_34 : decode cX5_apart 34 = .ok (.isub, 1) := by decide +kernel
theorem dX5_apart_35 : decode cX5_apart 35 = .ok (.invokestatic 54, 3) := by decide +kernel
theorem dX5_apart_38 : decode cX5_apart 38 = .ok (.istore 8, 2) := by decide +kernel
theorem dX5_apart_40 : decode cX5_apart 40 = .ok (.iload 4, 2) := by decide +kernel
theorem dX5_apart_42 : decode cX5_apart 42 = .ok (.iload 8, 2) := by decide +kernel
theorem dX5_apart_44 : decode cX5_apart 44 = .ok (.iadd, 1) := by decide +kernel
theorem dX5_apart_45 : decode cX5_apart 45 = .ok (.istore 4, 2) := by decide +kernel
theorem dX5_apart_47 : decode cX5_apart 47 = .ok (.iload 5, 2) := by decide +kernel
theorem dX5_apart_49 : decode cX5_apart 49 = .ok (.iload 8, 2) := by decide +kernel
theorem dX5_apart_51 : decode cX5_apart 51 = .ok (.invokestatic 59, 3) := by decide +kernel
theorem dX5_apart_54 : decode cX5_apart 54 = .ok (.istore 5, 2) := by decide +kernel
theorem dX5_apart_56 : decode cX5_apart 56 = .ok (.iload 6, 2) := by decide +kernel
theorem dX5_apart_58 : decode cX5_apart 58 = .ok (.iload 8, 2) := by decide +kernel
theorem dX5_apart_60 : decode cX5_apart 60 = .ok (.iload 8, 2) := by decide +kernel
theorem dX5_apart_62 : decode cX5_apart 62 = .ok (.imul, 1) := by decide +kernel
theorem dX5_apart_63 : decode cX5_apart 63 = .ok (.iadd, 1) := by decide +kernel
theorem dX5_apart_64 : decode cX5_apart 64 = .ok (.istore 6, 2) := by decide +kernel
theorem dX5_apart_66 : decode cX5_apart 66 = .ok (.iinc 7 1, 3) := by decide +kernel
theorem dX5_apart_69 : decode cX5_apart 69 = .ok (.goto (-57), 3) := by decide +kernel
theorem dX5_apart_72 : decode cX5_apart 72 = .ok (.aload_n 0, 1) := by decide +kernel
theorem dX5_apart_73 : decode cX5_apart 73 = .ok (.getfield 22, 3) := by decide +kernel
theorem dX5_apart_76 : decode cX5_apart 76 = .ok (.iconst 4, 1) := by decide +kernel
theorem dX5_apart_77 : decode cX5_apart 77 = .ok (.iaload, 1) := by decide +kernel
theorem dX5_apart_78 : decode cX5_apart 78 = .ok (.lookupswitch 32 #[(0, 26), (1, 29)], 26) := by decide +kernel
theorem dX5_apart_104 : decode cX5_apart 104 = .ok (.iload 4, 2) := by decide +kernel
theorem dX5_apart_106 : decode cX5_apart 106 = .ok (.ireturn, 1) := by decide +kernel
theorem dX5_apart_107 : decode cX5_apart 107 = .ok (.iload 5, 2) := by decide +kernel
theorem dX5_apart_109 : decode cX5_apart 109 = .ok (.ireturn, 1) := by decide +kernel
theorem dX5_apart_110 : decode cX5_apart 110 = .ok (.iload 6, 2) := by decide +kernel
theorem dX5_apart_112 : decode cX5_apart 112 = .ok (.ireturn, 1) := by decide +kernel
theorem dX5_white_0 : decode cX5_white 0 = .ok (.iconst 0, 1) := by decide +kernel
theorem dX5_white_1 : decode cX5_white 1 = .ok (.istore 4, 2) := by decide +kernel
theorem dX5_white_3 : decode cX5_white 3 = .ok (.iconst 0, 1) := by decide +kernel
theorem dX5_white_4 : decode cX5_white 4 = .ok (.istore 5, 2) := by decide +kernel
theorem dX5_white_6 : decode cX5_white 6 = .ok (.iload 5, 2) := by decide +kernel
theorem dX5_white_8 : decode cX5_white 8 = .ok (.iconst 5, 1) := by decide +kernel
theorem dX5_white_9 : decode cX5_white 9 = .ok (.if_icmp .ge 50, 3) := by decide +kernel
theorem dX5_white_12 : decode cX5_white 12 = .ok (.aload_n 0, 1) := by decide +kernel
theorem dX5_white_13 : decode cX5_white 13 = .ok (.iload_n 1, 1) := by decide +kernel
theorem dX5_white_14 : decode cX5_white 14 = .ok (.iconst 1, 1) := by decide +kernel
theorem dX5_white_15 : decode cX5_white 15 = .ok (.iload 5, 2) := by decide +kernel
theorem dX5_white_17 : decode cX5_white 17 = .ok (.invokevirtual 50, 3) := by decide +kernel
theorem dX5_white_20 : decode cX5_white 20 = .ok (.aload_n 0, 1) := by decide +kernel
theorem dX5_white_21 : decode cX5_white 21 = .ok (.iload_n 2, 1) := by decide +kernel
theorem dX5_white_22 : decode cX5_white 22 = .ok (.iconst 0, 1) := by decide +kernel
theorem dX5_white_23 : decode cX5_white 23 = .ok (.iload 5, 2) := by decide +kernel
theorem dX5_white_25 : decode cX5_white 25 = .ok (.invokevirtual 50, 3) := by decide +kernel
theorem dX5_white_28 : decode cX5_white 28 = .ok (.iadd, 1) := by decide +kernel
theorem dX5_white_29 : decode cX5_white 29 = .ok (.iload_n 3, 1) := by decide +kernel
theorem dX5_white_30 : decode cX5_white 30 = .ok (.iadd, 1) := by decide +kernel
theorem dX5_white_31 : decode cX5_white 31 = .ok (.istore 6, 2) := by decide +kernel
theorem dX5_white_33 : decode cX5_white 33 = .ok (.iload 4, 2) := by decide +kernel
theorem dX5_white_35 : decode cX5_white 35 = .ok (.iload 6, 2) := by decide +kernel
theorem dX5_white_37 : decode cX5_white 37 = .ok (.iconst 0, 1) := by decide +kernel
theorem dX5_white_38 : decode cX5_white 38 = .ok (.invokestatic 59, 3) := by decide +kernel
theorem dX5_white_41 : decode cX5_white 41 = .ok (.aload_n 0, 1) := by decide +kernel
theorem dX5_white_42 : decode cX5_white 42 = .ok (.getfield 22, 3) := by decide +kernel
theorem dX5_white_45 : decode cX5_white 45 = .ok (.iconst 2, 1) := by decide +kernel
theorem dX5_white_46 : decode cX5_white 46 = .ok (.iaload, 1) := by decide +kernel
theorem dX5_white_47 : decode cX5_white 47 = .ok (.invokestatic 63, 3) := by decide +kernel
theorem dX5_white_50 : decode cX5_white 50 = .ok (.iadd, 1) := by decide +kernel
theorem dX5_white_51 : decode cX5_white 51 = .ok (.istore 4, 2) := by decide +kernel
theorem dX5_white_53 : decode cX5_white 53 = .ok (.iinc 5 1, 3) := by decide +kernel
theorem dX5_white_56 : decode cX5_white 56 = .ok (.goto (-50), 3) := by decide +kernel
theorem dX5_white_59 : decode cX5_white 59 = .ok (.iload 4, 2) := by decide +kernel
theorem dX5_white_61 : decode cX5_white 61 = .ok (.ireturn, 1) := by decide +kernel
theorem dX5_sightGap_0 : decode cX5_sightGap 0 = .ok (.bipush (-20), 2) := by decide +kernel
theorem dX5_sightGap_2 : decode cX5_sightGap 2 = .ok (.istore_n 3, 1) := by decide +kernel
theorem dX5_sightGap_3 : decode cX5_sightGap 3 = .ok (.iload_n 3, 1) := by decide +kernel
theorem dX5_sightGap_4 : decode cX5_sightGap 4 = .ok (.bipush 20, 2) := by decide +kernel
theorem dX5_sightGap_6 : decode cX5_sightGap 6 = .ok (.if_icmp .ge 27, 3) := by decide +kernel
theorem dX5_sightGap_9 : decode cX5_sightGap 9 = .ok (.aload_n 0, 1) := by decide +kernel
theorem dX5_sightGap_10 : decode cX5_sightGap 10 = .ok (.iload_n 1, 1) := by decide +kernel
theorem dX5_sightGap_11 : decode cX5_sightGap 11 = .ok (.iload_n 2, 1) := by decide +kernel
theorem dX5_sightGap_12 : decode cX5_sightGap 12 = .ok (.iload_n 3, 1) := by decide +kernel
theorem dX5_sightGap_13 : decode cX5_sightGap 13 = .ok (.invokevirtual 66, 3) := by decide +kernel
theorem dX5_sightGap_16 : decode cX5_sightGap 16 = .ok (.aload_n 0, 1) := by decide +kernel
theorem dX5_sightGap_17 : decode cX5_sightGap 17 = .ok (.getfield 22, 3) := by decide +kernel
theorem dX5_sightGap_20 : decode cX5_sightGap 20 = .ok (.iconst 3, 1) := by decide +kernel
theorem dX5_sightGap_21 : decode cX5_sightGap 21 = .ok (.iaload, 1) := by decide +kernel
theorem dX5_sightGap_22 : decode cX5_sightGap 22 = .ok (.if_icmp .lt 5, 3) := by decide +kernel
theorem dX5_sightGap_25 : decode cX5_sightGap 25 = .ok (.iload_n 3, 1) := by decide +kernel
theorem dX5_sightGap_26 : decode cX5_sightGap 26 = .ok (.ireturn, 1) := by decide +kernel
theorem dX5_sightGap_27 : decode cX5_sightGap 27 = .ok (.iinc 3 1, 3) := by decide +kernel
theorem dX5_sightGap_30 : decode cX5_sightGap 30 = .ok (.goto (-27), 3) := by decide +kernel
theorem dX5_sightGap_33 : decode cX5_sightGap 33 = .ok (.bipush 20, 2) := by decide +kernel
theorem dX5_sightGap_35 : decode cX5_sightGap 35 = .ok (.ireturn, 1) := by decide +kernel
