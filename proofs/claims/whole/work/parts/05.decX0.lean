theorem dX0_init_0 : decode cX0_init 0 = .ok (.aload_n 0, 1) := by decide +kernel
theorem dX0_init_1 : decode cX0_init 1 = .ok (.invokespecial 3, 3) := by decide +kernel
theorem dX0_init_4 : decode cX0_init 4 = .ok (.aload_n 0, 1) := by decide +kernel
theorem dX0_init_5 : decode cX0_init 5 = .ok (.bipush 20, 2) := by decide +kernel
theorem dX0_init_7 : decode cX0_init 7 = .ok (.newarray .int, 2) := by decide +kernel
theorem dX0_init_9 : decode cX0_init 9 = .ok (.putfield 9, 3) := by decide +kernel
theorem dX0_init_12 : decode cX0_init 12 = .ok (.aload_n 0, 1) := by decide +kernel
theorem dX0_init_13 : decode cX0_init 13 = .ok (.bipush 20, 2) := by decide +kernel
theorem dX0_init_15 : decode cX0_init 15 = .ok (.newarray .int, 2) := by decide +kernel
theorem dX0_init_17 : decode cX0_init 17 = .ok (.putfield 15, 3) := by decide +kernel
theorem dX0_init_20 : decode cX0_init 20 = .ok (.aload_n 0, 1) := by decide +kernel
theorem dX0_init_21 : decode cX0_init 21 = .ok (.bipush 20, 2) := by decide +kernel
theorem dX0_init_23 : decode cX0_init 23 = .ok (.newarray .int, 2) := by decide +kernel
theorem dX0_init_25 : decode cX0_init 25 = .ok (.putfield 18, 3) := by decide +kernel
theorem dX0_init_28 : decode cX0_init 28 = .ok (.aload_n 0, 1) := by decide +kernel
theorem dX0_init_29 : decode cX0_init 29 = .ok (.iconst 0, 1) := by decide +kernel
theorem dX0_init_30 : decode cX0_init 30 = .ok (.putfield 21, 3) := by decide +kernel
theorem dX0_init_33 : decode cX0_init 33 = .ok (.return_, 1) := by decide +kernel
theorem dX0_enter_0 : decode cX0_enter 0 = .ok (.aload_n 0, 1) := by decide +kernel
theorem dX0_enter_1 : decode cX0_enter 1 = .ok (.getfield 21, 3) := by decide +kernel
theorem dX0_enter_4 : decode cX0_enter 4 = .ok (.bipush 20, 2) := by decide +kernel
theorem dX0_enter_6 : decode cX0_enter 6 = .ok (.if_icmp .lt 5, 3) := by decide +kernel
theorem dX0_enter_9 : decode cX0_enter 9 = .ok (.iconst 0, 1) := by decide +kernel
theorem dX0_enter_10 : decode cX0_enter 10 = .ok (.ireturn, 1) := by decide +kernel
theorem dX0_enter_11 : decode cX0_enter 11 = .ok (.aload_n 0, 1) := by decide +kernel
theorem dX0_enter_12 : decode cX0_enter 12 = .ok (.getfield 9, 3) := by decide +kernel
theorem dX0_enter_15 : decode cX0_enter 15 = .ok (.aload_n 0, 1) := by decide +kernel
theorem dX0_enter_16 : decode cX0_enter 16 = .ok (.getfield 21, 3) := by decide +kernel
theorem dX0_enter_19 : decode cX0_enter 19 = .ok (.iload_n 1, 1) := by decide +kernel
theorem dX0_enter_20 : decode cX0_enter 20 = .ok (.iastore, 1) := by decide +kernel
theorem dX0_enter_21 : decode cX0_enter 21 = .ok (.aload_n 0, 1) := by decide +kernel
theorem dX0_enter_22 : decode cX0_enter 22 = .ok (.getfield 15, 3) := by decide +kernel
theorem dX0_enter_25 : decode cX0_enter 25 = .ok (.aload_n 0, 1) := by decide +kernel
theorem dX0_enter_26 : decode cX0_enter 26 = .ok (.getfield 21, 3) := by decide +kernel
theorem dX0_enter_29 : decode cX0_enter 29 = .ok (.iload_n 2, 1) := by decide +kernel
theorem dX0_enter_30 : decode cX0_enter 30 = .ok (.iastore, 1) := by decide +kernel
theorem dX0_enter_31 : decode cX0_enter 31 = .ok (.aload_n 0, 1) := by decide +kernel
theorem dX0_enter_32 : decode cX0_enter 32 = .ok (.getfield 18, 3) := by decide +kernel
theorem dX0_enter_35 : decode cX0_enter 35 = .ok (.aload_n 0, 1) := by decide +kernel
theorem dX0_enter_36 : decode cX0_enter 36 = .ok (.getfield 21, 3) := by decide +kernel
theorem dX0_enter_39 : decode cX0_enter 39 = .ok (.iload_n 3, 1) := by decide +kernel
theorem dX0_enter_40 : decode cX0_enter 40 = .ok (.iastore, 1) := by decide +kernel
theorem dX0_enter_41 : decode cX0_enter 41 = .ok (.aload_n 0, 1) := by decide +kernel
theorem dX0_enter_42 : decode cX0_enter 42 = .ok (.dup, 1) := by decide +kernel
theorem dX0_enter_43 : decode cX0_enter 43 = .ok (.getfield 21, 3) := by decide +kernel
theorem dX0_enter_46 : decode cX0_enter 46 = .ok (.iconst 1, 1) := by decide +kernel
theorem dX0_enter_47 : decode cX0_enter 47 = .ok (.iadd, 1) := by decide +kernel
theorem dX0_enter_48 : decode cX0_enter 48 = .ok (.putfield 21, 3) := by decide +kernel
theorem dX0_enter_51 : decode cX0_enter 51 = .ok (.iconst 1, 1) := by decide +kernel
theorem dX0_enter_52 : decode cX0_enter 52 = .ok (.ireturn, 1) := by decide +kernel
theorem dX0_firstWrong_0 : decode cX0_firstWrong 0 = .ok (.iconst 0, 1) := by decide +kernel
theorem dX0_firstWrong_1 : decode cX0_firstWrong 1 = .ok (.istore_n 3, 1) := by decide +kernel
theorem dX0_firstWrong_2 : decode cX0_firstWrong 2 = .ok (.iload_n 3, 1) := by decide +kernel
theorem dX0_firstWrong_3 : decode cX0_firstWrong 3 = .ok (.aload_n 0, 1) := by decide +kernel
theorem dX0_firstWrong_4 : decode cX0_firstWrong 4 = .ok (.getfield 21, 3) := by decide +kernel
theorem dX0_firstWrong_7 : decode cX0_firstWrong 7 = .ok (.if_icmp .ge 55, 3) := by decide +kernel
theorem dX0_firstWrong_10 : decode cX0_firstWrong 10 = .ok (.aload_n 1, 1) := by decide +kernel
theorem dX0_firstWrong_11 : decode cX0_firstWrong 11 = .ok (.aload_n 0, 1) := by decide +kernel
theorem dX0_firstWrong_12 : decode cX0_firstWrong 12 = .ok (.getfield 9, 3) := by decide +kernel
theorem dX0_firstWrong_15 : decode cX0_firstWrong 15 = .ok (.iload_n 3, 1) := by decide +kernel
theorem dX0_firstWrong_16 : decode cX0_firstWrong 16 = .ok (.iaload, 1) := by decide +kernel
theorem dX0_firstWrong_17 : decode cX0_firstWrong 17 = .ok (.aload_n 0, 1) := by decide +kernel
theorem dX0_firstWrong_18 : decode cX0_firstWrong 18 = .ok (.getfield 15, 3) := by decide +kernel
theorem dX0_firstWrong_21 : decode cX0_firstWrong 21 = .ok (.iload_n 3, 1) := by decide +kernel
theorem dX0_firstWrong_22 : decode cX0_firstWrong 22 = .ok (.iaload, 1) := by decide +kernel
theorem dX0_firstWrong_23 : decode cX0_firstWrong 23 = .ok (.invokevirtual 25, 3) := by decide +kernel
theorem dX0_firstWrong_26 : decode cX0_firstWrong 26 = .ok (.ifCond .eq 28, 3) := by decide +kernel
theorem dX0_firstWrong_29 : decode cX0_firstWrong 29 = .ok (.aload_n 2, 1) := by decide +kernel
theorem dX0_firstWrong_30 : decode cX0_firstWrong 30 = .ok (.aload_n 0, 1) := by decide +kernel
theorem dX0_firstWrong_31 : decode cX0_firstWrong 31 = .ok (.getfield 9, 3) := by decide +kernel
theorem dX0_firstWrong_34 : decode cX0_firstWrong 34 = .ok (.iload_n 3, 1) := by decide +kernel
theorem dX0_firstWrong_35 : decode cX0_firstWrong 35 = .ok (.iaload, 1) := by decide +kernel
theorem dX0_firstWrong_36 : decode cX0_firstWrong 36 = .ok (.aload_n 0, 1) := by decide +kernel
theorem dX0_firstWrong_37 : decode cX0_firstWrong 37 = .ok (.getfield 15, 3) := by decide +kernel
theorem dX0_firstWrong_40 : decode cX0_firstWrong 40 = .ok (.iload_n 3, 1) := by decide +kernel
theorem dX0_firstWrong_41 : decode cX0_firstWrong 41 = .ok (.iaload, 1) := by decide +kernel
theorem dX0_firstWrong_42 : decode cX0_firstWrong 42 = .ok (.invokevirtual 31, 3) := by decide +kernel
theorem dX0_firstWrong_45 : decode cX0_firstWrong 45 = .ok (.aload_n 0, 1) := by decide +kernel
theorem dX0_firstWrong_46 : decode cX0_firstWrong 46 = .ok (.getfield 18, 3) := by decide +kernel
theorem dX0_firstWrong_49 : decode cX0_firstWrong 49 = .ok (.iload_n 3, 1) := by decide +kernel
theorem dX0_firstWrong_50 : decode cX0_firstWrong 50 = .ok (.iaload, 1) := by decide +kernel
theorem dX0_firstWrong_51 : decode cX0_firstWrong 51 = .ok (.if_icmp .eq 5, 3) := by decide +kernel
theorem dX0_firstWrong_54 : decode cX0_firstWrong 54 = .ok (.iload_n 3, 1) := by decide +kernel
theorem dX0_firstWrong_55 : decode cX0_firstWrong 55 = .ok (.ireturn, 1) := by decide +kernel
theorem dX0_firstWrong_56 : decode cX0_firstWrong 56 = .ok (.iinc 3 1, 3) := by decide +kernel
theorem dX0_firstWrong_59 : decode cX0_firstWrong 59 = .ok (.goto (-57), 3) := by decide +kernel
theorem dX0_firstWrong_62 : decode cX0_firstWrong 62 = .ok (.iconst (-1), 1) := by decide +kernel
theorem dX0_firstWrong_63 : decode cX0_firstWrong 63 = .ok (.ireturn, 1) := by decide +kernel
