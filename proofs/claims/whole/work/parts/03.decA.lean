theorem dX0_init_0 : decode cX0_init 0 = .ok (.aload_n 0, 1) := by decide +kernel
theorem dX0_init_1 : decode cX0_init 1 = .ok (.invokespecial 3, 3) := by decide +kernel
theorem dX0_init_4 : decode cX0_init 4 = .ok (.aload_n 0, 1) := by decide +kernel
theorem dX0_init_5 : decode cX0_init 5 = .ok (.new 9, 3) := by decide +kernel
theorem dX0_init_8 : decode cX0_init 8 = .ok (.dup, 1) := by decide +kernel
theorem dX0_init_9 : decode cX0_init 9 = .ok (.invokespecial 11, 3) := by decide +kernel
theorem dX0_init_12 : decode cX0_init 12 = .ok (.putfield 12, 3) := by decide +kernel
theorem dX0_init_15 : decode cX0_init 15 = .ok (.aload_n 0, 1) := by decide +kernel
theorem dX0_init_16 : decode cX0_init 16 = .ok (.new 9, 3) := by decide +kernel
theorem dX0_init_19 : decode cX0_init 19 = .ok (.dup, 1) := by decide +kernel
theorem dX0_init_20 : decode cX0_init 20 = .ok (.invokespecial 11, 3) := by decide +kernel
theorem dX0_init_23 : decode cX0_init 23 = .ok (.putfield 18, 3) := by decide +kernel
theorem dX0_init_26 : decode cX0_init 26 = .ok (.aload_n 0, 1) := by decide +kernel
theorem dX0_init_27 : decode cX0_init 27 = .ok (.bipush 64, 2) := by decide +kernel
theorem dX0_init_29 : decode cX0_init 29 = .ok (.newarray .int, 2) := by decide +kernel
theorem dX0_init_31 : decode cX0_init 31 = .ok (.putfield 21, 3) := by decide +kernel
theorem dX0_init_34 : decode cX0_init 34 = .ok (.aload_n 0, 1) := by decide +kernel
theorem dX0_init_35 : decode cX0_init 35 = .ok (.iconst 0, 1) := by decide +kernel
theorem dX0_init_36 : decode cX0_init 36 = .ok (.putfield 25, 3) := by decide +kernel
theorem dX0_init_39 : decode cX0_init 39 = .ok (.return_, 1) := by decide +kernel
theorem dX0_hold_0 : decode cX0_hold 0 = .ok (.aload_n 0, 1) := by decide +kernel
theorem dX0_hold_1 : decode cX0_hold 1 = .ok (.getfield 12, 3) := by decide +kernel
theorem dX0_hold_4 : decode cX0_hold 4 = .ok (.aload_n 1, 1) := by decide +kernel
theorem dX0_hold_5 : decode cX0_hold 5 = .ok (.invokevirtual 29, 3) := by decide +kernel
theorem dX0_hold_8 : decode cX0_hold 8 = .ok (.aload_n 0, 1) := by decide +kernel
theorem dX0_hold_9 : decode cX0_hold 9 = .ok (.getfield 18, 3) := by decide +kernel
theorem dX0_hold_12 : decode cX0_hold 12 = .ok (.aload_n 2, 1) := by decide +kernel
theorem dX0_hold_13 : decode cX0_hold 13 = .ok (.invokevirtual 29, 3) := by decide +kernel
theorem dX0_hold_16 : decode cX0_hold 16 = .ok (.aload_n 0, 1) := by decide +kernel
theorem dX0_hold_17 : decode cX0_hold 17 = .ok (.getfield 21, 3) := by decide +kernel
theorem dX0_hold_20 : decode cX0_hold 20 = .ok (.iconst 0, 1) := by decide +kernel
theorem dX0_hold_21 : decode cX0_hold 21 = .ok (.invokestatic 33, 3) := by decide +kernel
theorem dX0_hold_24 : decode cX0_hold 24 = .ok (.aload_n 0, 1) := by decide +kernel
theorem dX0_hold_25 : decode cX0_hold 25 = .ok (.iconst 0, 1) := by decide +kernel
theorem dX0_hold_26 : decode cX0_hold 26 = .ok (.putfield 25, 3) := by decide +kernel
theorem dX0_hold_29 : decode cX0_hold 29 = .ok (.iconst 0, 1) := by decide +kernel
theorem dX0_hold_30 : decode cX0_hold 30 = .ok (.istore 4, 2) := by decide +kernel
theorem dX0_hold_32 : decode cX0_hold 32 = .ok (.iload 4, 2) := by decide +kernel
theorem dX0_hold_34 : decode cX0_hold 34 = .ok (.aload_n 0, 1) := by decide +kernel
theorem dX0_hold_35 : decode cX0_hold 35 = .ok (.getfield 12, 3) := by decide +kernel
theorem dX0_hold_38 : decode cX0_hold 38 = .ok (.getfield 39, 3) := by decide +kernel
theorem dX0_hold_41 : decode cX0_hold 41 = .ok (.if_icmp .ge 50, 3) := by decide +kernel
theorem dX0_hold_44 : decode cX0_hold 44 = .ok (.iconst 0, 1) := by decide +kernel
theorem dX0_hold_45 : decode cX0_hold 45 = .ok (.istore 5, 2) := by decide +kernel
theorem dX0_hold_47 : decode cX0_hold 47 = .ok (.iload 5, 2) := by decide +kernel
theorem dX0_hold_49 : decode cX0_hold 49 = .ok (.aload_n 0, 1) := by decide +kernel
theorem dX0_hold_50 : decode cX0_hold 50 = .ok (.getfield 18, 3) := by decide +kernel
theorem dX0_hold_53 : decode cX0_hold 53 = .ok (.getfield 39, 3) := by decide +kernel
theorem dX0_hold_56 : decode cX0_hold 56 = .ok (.if_icmp .ge 29, 3) := by decide +kernel
theorem dX0_hold_59 : decode cX0_hold 59 = .ok (.aload_n 0, 1) := by decide +kernel
theorem dX0_hold_60 : decode cX0_hold 60 = .ok (.iload 4, 2) := by decide +kernel
theorem dX0_hold_62 : decode cX0_hold 62 = .ok (.iload 5, 2) := by decide +kernel
theorem dX0_hold_64 : decode cX0_hold 64 = .ok (.iload_n 3, 1) := by decide +kernel
theorem dX0_hold_65 : decode cX0_hold 65 = .ok (.invokevirtual 42, 3) := by decide +kernel
theorem dX0_hold_68 : decode cX0_hold 68 = .ok (.ifCond .eq 11, 3) := by decide +kernel
theorem dX0_hold_71 : decode cX0_hold 71 = .ok (.aload_n 0, 1) := by decide +kernel
theorem dX0_hold_72 : decode cX0_hold 72 = .ok (.iload 4, 2) := by decide +kernel
theorem dX0_hold_74 : decode cX0_hold 74 = .ok (.iload 5, 2) := by decide +kernel
theorem dX0_hold_76 : decode cX0_hold 76 = .ok (.invokevirtual 46, 3) := by decide +kernel
theorem dX0_hold_79 : decode cX0_hold 79 = .ok (.iinc 5 1, 3) := by decide +kernel
theorem dX0_hold_82 : decode cX0_hold 82 = .ok (.goto (-35), 3) := by decide +kernel
theorem dX0_hold_85 : decode cX0_hold 85 = .ok (.iinc 4 1, 3) := by decide +kernel
theorem dX0_hold_88 : decode cX0_hold 88 = .ok (.goto (-56), 3) := by decide +kernel
theorem dX0_hold_91 : decode cX0_hold 91 = .ok (.return_, 1) := by decide +kernel
theorem dX0_of_0 : decode cX0_of 0 = .ok (.aload_n 0, 1) := by decide +kernel
theorem dX0_of_1 : decode cX0_of 1 = .ok (.getfield 21, 3) := by decide +kernel
theorem dX0_of_4 : decode cX0_of 4 = .ok (.iload_n 1, 1) := by decide +kernel
theorem dX0_of_5 : decode cX0_of 5 = .ok (.bipush 8, 2) := by decide +kernel
theorem dX0_of_7 : decode cX0_of 7 = .ok (.imul, 1) := by decide +kernel
theorem dX0_of_8 : decode cX0_of 8 = .ok (.iload_n 2, 1) := by decide +kernel
theorem dX0_of_9 : decode cX0_of 9 = .ok (.iadd, 1) := by decide +kernel
theorem dX0_of_10 : decode cX0_of 10 = .ok (.iaload, 1) := by decide +kernel
theorem dX0_of_11 : decode cX0_of 11 = .ok (.ireturn, 1) := by decide +kernel
theorem dX0_isAlike_0 : decode cX0_isAlike 0 = .ok (.aload_n 0, 1) := by decide +kernel
theorem dX0_isAlike_1 : decode cX0_isAlike 1 = .ok (.getfield 12, 3) := by decide +kernel
theorem dX0_isAlike_4 : decode cX0_isAlike 4 = .ok (.getfield 50, 3) := by decide +kernel
theorem dX0_isAlike_7 : decode cX0_isAlike 7 = .ok (.iload_n 1, 1) := by decide +kernel
theorem dX0_isAlike_8 : decode cX0_isAlike 8 = .ok (.iaload, 1) := by decide +kernel
theorem dX0_isAlike_9 : decode cX0_isAlike 9 = .ok (.aload_n 0, 1) := by decide +kernel
theorem dX0_isAlike_10 : decode cX0_isAlike 10 = .ok (.getfield 18, 3) := by decide +kernel
theorem dX0_isAlike_13 : decode cX0_isAlike 13 = .ok (.getfield 50, 3) := by decide +kernel
theorem dX0_isAlike_16 : decode cX0_isAlike 16 = .ok (.iload_n 2, 1) := by decide +kernel
theorem dX0_isAlike_17 : decode cX0_isAlike 17 = .ok (.iaload, 1) := by decide +kernel
theorem dX0_isAlike_18 : decode cX0_isAlike 18 = .ok (.if_icmp .ne 59, 3) := by decide +kernel
theorem dX0_isAlike_21 : decode cX0_isAlike 21 = .ok (.aload_n 0, 1) := by decide +kernel
theorem dX0_isAlike_22 : decode cX0_isAlike 22 = .ok (.getfield 12, 3) := by decide +kernel
theorem dX0_isAlike_25 : decode cX0_isAlike 25 = .ok (.getfield 53, 3) := by decide +kernel
theorem dX0_isAlike_28 : decode cX0_isAlike 28 = .ok (.iload_n 1, 1) := by decide +kernel
theorem dX0_isAlike_29 : decode cX0_isAlike 29 = .ok (.iaload, 1) := by decide +kernel
theorem dX0_isAlike_30 : decode cX0_isAlike 30 = .ok (.aload_n 0, 1) := by decide +kernel
theorem dX0_isAlike_31 : decode cX0_isAlike 31 = .ok (.getfield 18, 3) := by decide +kernel
theorem dX0_isAlike_34 : decode cX0_isAlike 34 = .ok (.getfield 53, 3) := by decide +kernel
theorem dX0_isAlike_37 : decode cX0_isAlike 37 = .ok (.iload_n 2, 1) := by decide +kernel
theorem dX0_isAlike_38 : decode cX0_isAlike 38 = .ok (.iaload, 1) := by decide +kernel
theorem dX0_isAlike_39 : decode cX0_isAlike 39 = .ok (.isub, 1) := by decide +kernel
theorem dX0_isAlike_40 : decode cX0_isAlike 40 = .ok (.invokestatic 56, 3) := by decide +kernel
theorem dX0_isAlike_43 : decode cX0_isAlike 43 = .ok (.iload_n 3, 1) := by decide +kernel
theorem dX0_isAlike_44 : decode cX0_isAlike 44 = .ok (.if_icmp .gt 33, 3) := by decide +kernel
theorem dX0_isAlike_47 : decode cX0_isAlike 47 = .ok (.aload_n 0, 1) := by decide +kernel
theorem dX0_isAlike_48 : decode cX0_isAlike 48 = .ok (.getfield 12, 3) := by decide +kernel
theorem dX0_isAlike_51 : decode cX0_isAlike 51 = .ok (.getfield 62, 3) := by decide +kernel
theorem dX0_isAlike_54 : decode cX0_isAlike 54 = .ok (.iload_n 1, 1) := by decide +kernel
theorem dX0_isAlike_55 : decode cX0_isAlike 55 = .ok (.iaload, 1) := by decide +kernel
theorem dX0_isAlike_56 : decode cX0_isAlike 56 = .ok (.aload_n 0, 1) := by decide +kernel
theorem dX0_isAlike_57 : decode cX0_isAlike 57 = .ok (.getfield 18, 3) := by decide +kernel
theorem dX0_isAlike_60 : decode cX0_isAlike 60 = .ok (.getfield 62, 3) := by decide +kernel
theorem dX0_isAlike_63 : decode cX0_isAlike 63 = .ok (.iload_n 2, 1) := by decide +kernel
theorem dX0_isAlike_64 : decode cX0_isAlike 64 = .ok (.iaload, 1) := by decide +kernel
theorem dX0_isAlike_65 : decode cX0_isAlike 65 = .ok (.isub, 1) := by decide +kernel
theorem dX0_isAlike_66 : decode cX0_isAlike 66 = .ok (.invokestatic 56, 3) := by decide +kernel
theorem dX0_isAlike_69 : decode cX0_isAlike 69 = .ok (.iload_n 3, 1) := by decide +kernel
theorem dX0_isAlike_70 : decode cX0_isAlike 70 = .ok (.if_icmp .gt 7, 3) := by decide +kernel
theorem dX0_isAlike_73 : decode cX0_isAlike 73 = .ok (.iconst 1, 1) := by decide +kernel
theorem dX0_isAlike_74 : decode cX0_isAlike 74 = .ok (.goto 4, 3) := by decide +kernel
theorem dX0_isAlike_77 : decode cX0_isAlike 77 = .ok (.iconst 0, 1) := by decide +kernel
theorem dX0_isAlike_78 : decode cX0_isAlike 78 = .ok (.ireturn, 1) := by decide +kernel
theorem dX0_cast_0 : decode cX0_cast 0 = .ok (.aload_n 0, 1) := by decide +kernel
theorem dX0_cast_1 : decode cX0_cast 1 = .ok (.dup, 1) := by decide +kernel
theorem dX0_cast_2 : decode cX0_cast 2 = .ok (.getfield 25, 3) := by decide +kernel
theorem dX0_cast_5 : decode cX0_cast 5 = .ok (.iconst 1, 1) := by decide +kernel
theorem dX0_cast_6 : decode cX0_cast 6 = .ok (.iadd, 1) := by decide +kernel
theorem dX0_cast_7 : decode cX0_cast 7 = .ok (.putfield 25, 3) := by decide +kernel
theorem dX0_cast_10 : decode cX0_cast 10 = .ok (.aload_n 0, 1) := by decide +kernel
theorem dX0_cast_11 : decode cX0_cast 11 = .ok (.getfield 21, 3) := by decide +kernel
theorem dX0_cast_14 : decode cX0_cast 14 = .ok (.aload_n 0, 1) := by decide +kernel
theorem dX0_cast_15 : decode cX0_cast 15 = .ok (.getfield 12, 3) := by decide +kernel
theorem dX0_cast_18 : decode cX0_cast 18 = .ok (.getfield 65, 3) := by decide +kernel
theorem dX0_cast_21 : decode cX0_cast 21 = .ok (.iload_n 1, 1) := by decide +kernel
theorem dX0_cast_22 : decode cX0_cast 22 = .ok (.iaload, 1) := by decide +kernel
theorem dX0_cast_23 : decode cX0_cast 23 = .ok (.bipush 8, 2) := by decide +kernel
theorem dX0_cast_25 : decode cX0_cast 25 = .ok (.imul, 1) := by decide +kernel
theorem dX0_cast_26 : decode cX0_cast 26 = .ok (.aload_n 0, 1) := by decide +kernel
theorem dX0_cast_27 : decode cX0_cast 27 = .ok (.getfield 18, 3) := by decide +kernel
theorem dX0_cast_30 : decode cX0_cast 30 = .ok (.getfield 65, 3) := by decide +kernel
theorem dX0_cast_33 : decode cX0_cast 33 = .ok (.iload_n 2, 1) := by decide +kernel
theorem dX0_cast_34 : decode cX0_cast 34 = .ok (.iaload, 1) := by decide +kernel
theorem dX0_cast_35 : decode cX0_cast 35 = .ok (.iadd, 1) := by decide +kernel
theorem dX0_cast_36 : decode cX0_cast 36 = .ok (.dup2, 1) := by decide +kernel
theorem dX0_cast_37 : decode cX0_cast 37 = .ok (.iaload, 1) := by decide +kernel
theorem dX0_cast_38 : decode cX0_cast 38 = .ok (.iconst 1, 1) := by decide +kernel
theorem dX0_cast_39 : decode cX0_cast 39 = .ok (.iadd, 1) := by decide +kernel
theorem dX0_cast_40 : decode cX0_cast 40 = .ok (.iastore, 1) := by decide +kernel
theorem dX0_cast_41 : decode cX0_cast 41 = .ok (.aload_n 0, 1) := by decide +kernel
theorem dX0_cast_42 : decode cX0_cast 42 = .ok (.getfield 21, 3) := by decide +kernel
theorem dX0_cast_45 : decode cX0_cast 45 = .ok (.aload_n 0, 1) := by decide +kernel
theorem dX0_cast_46 : decode cX0_cast 46 = .ok (.getfield 12, 3) := by decide +kernel
theorem dX0_cast_49 : decode cX0_cast 49 = .ok (.getfield 68, 3) := by decide +kernel
theorem dX0_cast_52 : decode cX0_cast 52 = .ok (.iload_n 1, 1) := by decide +kernel
theorem dX0_cast_53 : decode cX0_cast 53 = .ok (.iaload, 1) := by decide +kernel
theorem dX0_cast_54 : decode cX0_cast 54 = .ok (.bipush 8, 2) := by decide +kernel
theorem dX0_cast_56 : decode cX0_cast 56 = .ok (.imul, 1) := by decide +kernel
theorem dX0_cast_57 : decode cX0_cast 57 = .ok (.aload_n 0, 1) := by decide +kernel
theorem dX0_cast_58 : decode cX0_cast 58 = .ok (.getfield 18, 3) := by decide +kernel
theorem dX0_cast_61 : decode cX0_cast 61 = .ok (.getfield 68, 3) := by decide +kernel
theorem dX0_cast_64 : decode cX0_cast 64 = .ok (.iload_n 2, 1) := by decide +kernel
theorem dX0_cast_65 : decode cX0_cast 65 = .ok (.iaload, 1) := by decide +kernel
theorem dX0_cast_66 : decode cX0_cast 66 = .ok (.iadd, 1) := by decide +kernel
theorem dX0_cast_67 : decode cX0_cast 67 = .ok (.dup2, 1) := by decide +kernel
theorem dX0_cast_68 : decode cX0_cast 68 = .ok (.iaload, 1) := by decide +kernel
theorem dX0_cast_69 : decode cX0_cast 69 = .ok (.iconst 1, 1) := by decide +kernel
theorem dX0_cast_70 : decode cX0_cast 70 = .ok (.iadd, 1) := by decide +kernel
theorem dX0_cast_71 : decode cX0_cast 71 = .ok (.iastore, 1) := by decide +kernel
theorem dX0_cast_72 : decode cX0_cast 72 = .ok (.aload_n 0, 1) := by decide +kernel
theorem dX0_cast_73 : decode cX0_cast 73 = .ok (.getfield 21, 3) := by decide +kernel
theorem dX0_cast_76 : decode cX0_cast 76 = .ok (.aload_n 0, 1) := by decide +kernel
theorem dX0_cast_77 : decode cX0_cast 77 = .ok (.getfield 12, 3) := by decide +kernel
theorem dX0_cast_80 : decode cX0_cast 80 = .ok (.getfield 71, 3) := by decide +kernel
theorem dX0_cast_83 : decode cX0_cast 83 = .ok (.iload_n 1, 1) := by decide +kernel
theorem dX0_cast_84 : decode cX0_cast 84 = .ok (.iaload, 1) := by decide +kernel
theorem dX0_cast_85 : decode cX0_cast 85 = .ok (.bipush 8, 2) := by decide +kernel
theorem dX0_cast_87 : decode cX0_cast 87 = .ok (.imul, 1) := by decide +kernel
theorem dX0_cast_88 : decode cX0_cast 88 = .ok (.aload_n 0, 1) := by decide +kernel
theorem dX0_cast_89 : decode cX0_cast 89 = .ok (.getfield 18, 3) := by decide +kernel
theorem dX0_cast_92 : decode cX0_cast 92 = .ok (.getfield 71, 3) := by decide +kernel
theorem dX0_cast_95 : decode cX0_cast 95 = .ok (.iload_n 2, 1) := by decide +kernel
theorem dX0_cast_96 : decode cX0_cast 96 = .ok (.iaload, 1) := by decide +kernel
theorem dX0_cast_97 : decode cX0_cast 97 = .ok (.iadd, 1) := by decide +kernel
theorem dX0_cast_98 : decode cX0_cast 98 = .ok (.dup2, 1) := by decide +kernel
theorem dX0_cast_99 : decode cX0_cast 99 = .ok (.iaload, 1) := by decide +kernel
theorem dX0_cast_100 : decode cX0_cast 100 = .ok (.iconst 1, 1) := by decide +kernel
theorem dX0_cast_101 : decode cX0_cast 101 = .ok (.iadd, 1) := by decide +kernel
theorem dX0_cast_102 : decode cX0_cast 102 = .ok (.iastore, 1) := by decide +kernel
theorem dX0_cast_103 : decode cX0_cast 103 = .ok (.return_, 1) := by decide +kernel
theorem dX1_init_0 : decode cX1_init 0 = .ok (.aload_n 0, 1) := by decide +kernel
theorem dX1_init_1 : decode cX1_init 1 = .ok (.invokespecial 3, 3) := by decide +kernel
theorem dX1_init_4 : decode cX1_init 4 = .ok (.aload_n 0, 1) := by decide +kernel
theorem dX1_init_5 : decode cX1_init 5 = .ok (.bipush 8, 2) := by decide +kernel
theorem dX1_init_7 : decode cX1_init 7 = .ok (.newarray .int, 2) := by decide +kernel
theorem dX1_init_9 : decode cX1_init 9 = .ok (.putfield 9, 3) := by decide +kernel
theorem dX1_init_12 : decode cX1_init 12 = .ok (.aload_n 0, 1) := by decide +kernel
theorem dX1_init_13 : decode cX1_init 13 = .ok (.bipush 8, 2) := by decide +kernel
theorem dX1_init_15 : decode cX1_init 15 = .ok (.newarray .int, 2) := by decide +kernel
theorem dX1_init_17 : decode cX1_init 17 = .ok (.putfield 15, 3) := by decide +kernel
theorem dX1_init_20 : decode cX1_init 20 = .ok (.aload_n 0, 1) := by decide +kernel
theorem dX1_init_21 : decode cX1_init 21 = .ok (.bipush 8, 2) := by decide +kernel
theorem dX1_init_23 : decode cX1_init 23 = .ok (.newarray .int, 2) := by decide +kernel
theorem dX1_init_25 : decode cX1_init 25 = .ok (.putfield 18, 3) := by decide +kernel
theorem dX1_init_28 : decode cX1_init 28 = .ok (.aload_n 0, 1) := by decide +kernel
theorem dX1_init_29 : decode cX1_init 29 = .ok (.iconst 0, 1) := by decide +kernel
theorem dX1_init_30 : decode cX1_init 30 = .ok (.putfield 21, 3) := by decide +kernel
theorem dX1_init_33 : decode cX1_init 33 = .ok (.return_, 1) := by decide +kernel
theorem dX1_has_0 : decode cX1_has 0 = .ok (.iload_n 1, 1) := by decide +kernel
theorem dX1_has_1 : decode cX1_has 1 = .ok (.ifCond .lt 15, 3) := by decide +kernel
theorem dX1_has_4 : decode cX1_has 4 = .ok (.iload_n 1, 1) := by decide +kernel
theorem dX1_has_5 : decode cX1_has 5 = .ok (.aload_n 0, 1) := by decide +kernel
theorem dX1_has_6 : decode cX1_has 6 = .ok (.getfield 21, 3) := by decide +kernel
theorem dX1_has_9 : decode cX1_has 9 = .ok (.if_icmp .ge 7, 3) := by decide +kernel
theorem dX1_has_12 : decode cX1_has 12 = .ok (.iconst 1, 1) := by decide +kernel
theorem dX1_has_13 : decode cX1_has 13 = .ok (.goto 4, 3) := by decide +kernel
theorem dX1_has_16 : decode cX1_has 16 = .ok (.iconst 0, 1) := by decide +kernel
theorem dX1_has_17 : decode cX1_has 17 = .ok (.ireturn, 1) := by decide +kernel
theorem dX1_add_0 : decode cX1_add 0 = .ok (.aload_n 0, 1) := by decide +kernel
theorem dX1_add_1 : decode cX1_add 1 = .ok (.iload_n 1, 1) := by decide +kernel
theorem dX1_add_2 : decode cX1_add 2 = .ok (.iload_n 2, 1) := by decide +kernel
theorem dX1_add_3 : decode cX1_add 3 = .ok (.invokevirtual 25, 3) := by decide +kernel
theorem dX1_add_6 : decode cX1_add 6 = .ok (.ifCond .eq 6, 3) := by decide +kernel
theorem dX1_add_9 : decode cX1_add 9 = .ok (.bipush (-3), 2) := by decide +kernel
theorem dX1_add_11 : decode cX1_add 11 = .ok (.ireturn, 1) := by decide +kernel
theorem dX1_add_12 : decode cX1_add 12 = .ok (.aload_n 0, 1) := by decide +kernel
theorem dX1_add_13 : decode cX1_add 13 = .ok (.getfield 21, 3) := by decide +kernel
theorem dX1_add_16 : decode cX1_add 16 = .ok (.bipush 8, 2) := by decide +kernel
theorem dX1_add_18 : decode cX1_add 18 = .ok (.if_icmp .lt 6, 3) := by decide +kernel
theorem dX1_add_21 : decode cX1_add 21 = .ok (.bipush (-4), 2) := by decide +kernel
theorem dX1_add_23 : decode cX1_add 23 = .ok (.ireturn, 1) := by decide +kernel
theorem dX1_add_24 : decode cX1_add 24 = .ok (.aload_n 0, 1) := by decide +kernel
theorem dX1_add_25 : decode cX1_add 25 = .ok (.getfield 9, 3) := by decide +kernel
theorem dX1_add_28 : decode cX1_add 28 = .ok (.aload_n 0, 1) := by decide +kernel
theorem dX1_add_29 : decode cX1_add 29 = .ok (.getfield 21, 3) := by decide +kernel
theorem dX1_add_32 : decode cX1_add 32 = .ok (.iload_n 1, 1) := by decide +kernel
theorem dX1_add_33 : decode cX1_add 33 = .ok (.iastore, 1) := by decide +kernel
theorem dX1_add_34 : decode cX1_add 34 = .ok (.aload_n 0, 1) := by decide +kernel
theorem dX1_add_35 : decode cX1_add 35 = .ok (.getfield 15, 3) := by decide +kernel
theorem dX1_add_38 : decode cX1_add 38 = .ok (.aload_n 0, 1) := by decide +kernel
theorem dX1_add_39 : decode cX1_add 39 = .ok (.getfield 21, 3) := by decide +kernel
theorem dX1_add_42 : decode cX1_add 42 = .ok (.iload_n 2, 1) := by decide +kernel
theorem dX1_add_43 : decode cX1_add 43 = .ok (.iastore, 1) := by decide +kernel
theorem dX1_add_44 : decode cX1_add 44 = .ok (.aload_n 0, 1) := by decide +kernel
theorem dX1_add_45 : decode cX1_add 45 = .ok (.getfield 18, 3) := by decide +kernel
theorem dX1_add_48 : decode cX1_add 48 = .ok (.aload_n 0, 1) := by decide +kernel
theorem dX1_add_49 : decode cX1_add 49 = .ok (.getfield 21, 3) := by decide +kernel
theorem dX1_add_52 : decode cX1_add 52 = .ok (.iload_n 3, 1) := by decide +kernel
theorem dX1_add_53 : decode cX1_add 53 = .ok (.iastore, 1) := by decide +kernel
theorem dX1_add_54 : decode cX1_add 54 = .ok (.aload_n 0, 1) := by decide +kernel
theorem dX1_add_55 : decode cX1_add 55 = .ok (.dup, 1) := by decide +kernel
theorem dX1_add_56 : decode cX1_add 56 = .ok (.getfield 21, 3) := by decide +kernel
theorem dX1_add_59 : decode cX1_add 59 = .ok (.iconst 1, 1) := by decide +kernel
theorem dX1_add_60 : decode cX1_add 60 = .ok (.iadd, 1) := by decide +kernel
theorem dX1_add_61 : decode cX1_add 61 = .ok (.putfield 21, 3) := by decide +kernel
theorem dX1_add_64 : decode cX1_add 64 = .ok (.aload_n 0, 1) := by decide +kernel
theorem dX1_add_65 : decode cX1_add 65 = .ok (.getfield 21, 3) := by decide +kernel
theorem dX1_add_68 : decode cX1_add 68 = .ok (.iconst 1, 1) := by decide +kernel
theorem dX1_add_69 : decode cX1_add 69 = .ok (.isub, 1) := by decide +kernel
theorem dX1_add_70 : decode cX1_add 70 = .ok (.ireturn, 1) := by decide +kernel
theorem dX1_dropLast_0 : decode cX1_dropLast 0 = .ok (.aload_n 0, 1) := by decide +kernel
theorem dX1_dropLast_1 : decode cX1_dropLast 1 = .ok (.getfield 21, 3) := by decide +kernel
theorem dX1_dropLast_4 : decode cX1_dropLast 4 = .ok (.ifCond .gt 6, 3) := by decide +kernel
theorem dX1_dropLast_7 : decode cX1_dropLast 7 = .ok (.bipush (-3), 2) := by decide +kernel
theorem dX1_dropLast_9 : decode cX1_dropLast 9 = .ok (.ireturn, 1) := by decide +kernel
theorem dX1_dropLast_10 : decode cX1_dropLast 10 = .ok (.aload_n 0, 1) := by decide +kernel
theorem dX1_dropLast_11 : decode cX1_dropLast 11 = .ok (.dup, 1) := by decide +kernel
theorem dX1_dropLast_12 : decode cX1_dropLast 12 = .ok (.getfield 21, 3) := by decide +kernel
theorem dX1_dropLast_15 : decode cX1_dropLast 15 = .ok (.iconst 1, 1) := by decide +kernel
theorem dX1_dropLast_16 : decode cX1_dropLast 16 = .ok (.isub, 1) := by decide +kernel
theorem dX1_dropLast_17 : decode cX1_dropLast 17 = .ok (.putfield 21, 3) := by decide +kernel
theorem dX1_dropLast_20 : decode cX1_dropLast 20 = .ok (.aload_n 0, 1) := by decide +kernel
theorem dX1_dropLast_21 : decode cX1_dropLast 21 = .ok (.getfield 21, 3) := by decide +kernel
theorem dX1_dropLast_24 : decode cX1_dropLast 24 = .ok (.ireturn, 1) := by decide +kernel
theorem dX1_read_0 : decode cX1_read 0 = .ok (.iload_n 2, 1) := by decide +kernel
theorem dX1_read_1 : decode cX1_read 1 = .ok (.ifCond .ne 12, 3) := by decide +kernel
theorem dX1_read_4 : decode cX1_read 4 = .ok (.aload_n 0, 1) := by decide +kernel
theorem dX1_read_5 : decode cX1_read 5 = .ok (.getfield 9, 3) := by decide +kernel
theorem dX1_read_8 : decode cX1_read 8 = .ok (.iload_n 1, 1) := by decide +kernel
theorem dX1_read_9 : decode cX1_read 9 = .ok (.iaload, 1) := by decide +kernel
theorem dX1_read_10 : decode cX1_read 10 = .ok (.goto 23, 3) := by decide +kernel
theorem dX1_read_13 : decode cX1_read 13 = .ok (.iload_n 2, 1) := by decide +kernel
theorem dX1_read_14 : decode cX1_read 14 = .ok (.iconst 1, 1) := by decide +kernel
theorem dX1_read_15 : decode cX1_read 15 = .ok (.if_icmp .ne 12, 3) := by decide +kernel
theorem dX1_read_18 : decode cX1_read 18 = .ok (.aload_n 0, 1) := by decide +kernel
theorem dX1_read_19 : decode cX1_read 19 = .ok (.getfield 15, 3) := by decide +kernel
theorem dX1_read_22 : decode cX1_read 22 = .ok (.iload_n 1, 1) := by decide +kernel
theorem dX1_read_23 : decode cX1_read 23 = .ok (.iaload, 1) := by decide +kernel
theorem dX1_read_24 : decode cX1_read 24 = .ok (.goto 9, 3) := by decide +kernel
theorem dX1_read_27 : decode cX1_read 27 = .ok (.aload_n 0, 1) := by decide +kernel
theorem dX1_read_28 : decode cX1_read 28 = .ok (.getfield 18, 3) := by decide +kernel
theorem dX1_read_31 : decode cX1_read 31 = .ok (.iload_n 1, 1) := by decide +kernel
theorem dX1_read_32 : decode cX1_read 32 = .ok (.iaload, 1) := by decide +kernel
theorem dX1_read_33 : decode cX1_read 33 = .ok (.ireturn, 1) := by decide +kernel
theorem dX1_copyFrom_0 : decode cX1_copyFrom 0 = .ok (.aload_n 1, 1) := by decide +kernel
theorem dX1_copyFrom_1 : decode cX1_copyFrom 1 = .ok (.getfield 9, 3) := by decide +kernel
theorem dX1_copyFrom_4 : decode cX1_copyFrom 4 = .ok (.iconst 0, 1) := by decide +kernel
theorem dX1_copyFrom_5 : decode cX1_copyFrom 5 = .ok (.aload_n 0, 1) := by decide +kernel
theorem dX1_copyFrom_6 : decode cX1_copyFrom 6 = .ok (.getfield 9, 3) := by decide +kernel
theorem dX1_copyFrom_9 : decode cX1_copyFrom 9 = .ok (.iconst 0, 1) := by decide +kernel
theorem dX1_copyFrom_10 : decode cX1_copyFrom 10 = .ok (.bipush 8, 2) := by decide +kernel
theorem dX1_copyFrom_12 : decode cX1_copyFrom 12 = .ok (.invokestatic 29, 3) := by decide +kernel
theorem dX1_copyFrom_15 : decode cX1_copyFrom 15 = .ok (.aload_n 1, 1) := by decide +kernel
theorem dX1_copyFrom_16 : decode cX1_copyFrom 16 = .ok (.getfield 15, 3) := by decide +kernel
theorem dX1_copyFrom_19 : decode cX1_copyFrom 19 = .ok (.iconst 0, 1) := by decide +kernel
theorem dX1_copyFrom_20 : decode cX1_copyFrom 20 = .ok (.aload_n 0, 1) := by decide +kernel
theorem dX1_copyFrom_21 : decode cX1_copyFrom 21 = .ok (.getfield 15, 3) := by decide +kernel
theorem dX1_copyFrom_24 : decode cX1_copyFrom 24 = .ok (.iconst 0, 1) := by decide +kernel
theorem dX1_copyFrom_25 : decode cX1_copyFrom 25 = .ok (.bipush 8, 2) := by decide +kernel
theorem dX1_copyFrom_27 : decode cX1_copyFrom 27 = .ok (.invokestatic 29, 3) := by decide +kernel
theorem dX1_copyFrom_30 : decode cX1_copyFrom 30 = .ok (.aload_n 1, 1) := by decide +kernel
theorem dX1_copyFrom_31 : decode cX1_copyFrom 31 = .ok (.getfield 18, 3) := by decide +kernel
theorem dX1_copyFrom_34 : decode cX1_copyFrom 34 = .ok (.iconst 0, 1) := by decide +kernel
theorem dX1_copyFrom_35 : decode cX1_copyFrom 35 = .ok (.aload_n 0, 1) := by decide +kernel
theorem dX1_copyFrom_36 : decode cX1_copyFrom 36 = .ok (.getfield 18, 3) := by decide +kernel
theorem dX1_copyFrom_39 : decode cX1_copyFrom 39 = .ok (.iconst 0, 1) := by decide +kernel
theorem dX1_copyFrom_40 : decode cX1_copyFrom 40 = .ok (.bipush 8, 2) := by decide +kernel
theorem dX1_copyFrom_42 : decode cX1_copyFrom 42 = .ok (.invokestatic 29, 3) := by decide +kernel
theorem dX1_copyFrom_45 : decode cX1_copyFrom 45 = .ok (.aload_n 0, 1) := by decide +kernel
theorem dX1_copyFrom_46 : decode cX1_copyFrom 46 = .ok (.aload_n 1, 1) := by decide +kernel
theorem dX1_copyFrom_47 : decode cX1_copyFrom 47 = .ok (.getfield 21, 3) := by decide +kernel
theorem dX1_copyFrom_50 : decode cX1_copyFrom 50 = .ok (.putfield 21, 3) := by decide +kernel
theorem dX1_copyFrom_53 : decode cX1_copyFrom 53 = .ok (.return_, 1) := by decide +kernel
theorem dX1_isTaken_0 : decode cX1_isTaken 0 = .ok (.iconst 0, 1) := by decide +kernel
theorem dX1_isTaken_1 : decode cX1_isTaken 1 = .ok (.istore_n 3, 1) := by decide +kernel
theorem dX1_isTaken_2 : decode cX1_isTaken 2 = .ok (.iload_n 3, 1) := by decide +kernel
theorem dX1_isTaken_3 : decode cX1_isTaken 3 = .ok (.aload_n 0, 1) := by decide +kernel
theorem dX1_isTaken_4 : decode cX1_isTaken 4 = .ok (.getfield 21, 3) := by decide +kernel
theorem dX1_isTaken_7 : decode cX1_isTaken 7 = .ok (.if_icmp .ge 31, 3) := by decide +kernel
theorem dX1_isTaken_10 : decode cX1_isTaken 10 = .ok (.aload_n 0, 1) := by decide +kernel
theorem dX1_isTaken_11 : decode cX1_isTaken 11 = .ok (.getfield 9, 3) := by decide +kernel
theorem dX1_isTaken_14 : decode cX1_isTaken 14 = .ok (.iload_n 3, 1) := by decide +kernel
theorem dX1_isTaken_15 : decode cX1_isTaken 15 = .ok (.iaload, 1) := by decide +kernel
theorem dX1_isTaken_16 : decode cX1_isTaken 16 = .ok (.iload_n 1, 1) := by decide +kernel
theorem dX1_isTaken_17 : decode cX1_isTaken 17 = .ok (.if_icmp .ne 15, 3) := by decide +kernel
theorem dX1_isTaken_20 : decode cX1_isTaken 20 = .ok (.aload_n 0, 1) := by decide +kernel
theorem dX1_isTaken_21 : decode cX1_isTaken 21 = .ok (.getfield 15, 3) := by decide +kernel
theorem dX1_isTaken_24 : decode cX1_isTaken 24 = .ok (.iload_n 3, 1) := by decide +kernel
theorem dX1_isTaken_25 : decode cX1_isTaken 25 = .ok (.iaload, 1) := by decide +kernel
theorem dX1_isTaken_26 : decode cX1_isTaken 26 = .ok (.iload_n 2, 1) := by decide +kernel
theorem dX1_isTaken_27 : decode cX1_isTaken 27 = .ok (.if_icmp .ne 5, 3) := by decide +kernel
theorem dX1_isTaken_30 : decode cX1_isTaken 30 = .ok (.iconst 1, 1) := by decide +kernel
theorem dX1_isTaken_31 : decode cX1_isTaken 31 = .ok (.ireturn, 1) := by decide +kernel
theorem dX1_isTaken_32 : decode cX1_isTaken 32 = .ok (.iinc 3 1, 3) := by decide +kernel
theorem dX1_isTaken_35 : decode cX1_isTaken 35 = .ok (.goto (-33), 3) := by decide +kernel
theorem dX1_isTaken_38 : decode cX1_isTaken 38 = .ok (.iconst 0, 1) := by decide +kernel
theorem dX1_isTaken_39 : decode cX1_isTaken 39 = .ok (.ireturn, 1) := by decide +kernel
theorem dX2_init_0 : decode cX2_init 0 = .ok (.aload_n 0, 1) := by decide +kernel
theorem dX2_init_1 : decode cX2_init 1 = .ok (.invokespecial 3, 3) := by decide +kernel
theorem dX2_init_4 : decode cX2_init 4 = .ok (.aload_n 0, 1) := by decide +kernel
theorem dX2_init_5 : decode cX2_init 5 = .ok (.bipush 8, 2) := by decide +kernel
theorem dX2_init_7 : decode cX2_init 7 = .ok (.newarray .int, 2) := by decide +kernel
theorem dX2_init_9 : decode cX2_init 9 = .ok (.putfield 9, 3) := by decide +kernel
theorem dX2_init_12 : decode cX2_init 12 = .ok (.aload_n 0, 1) := by decide +kernel
theorem dX2_init_13 : decode cX2_init 13 = .ok (.bipush 8, 2) := by decide +kernel
theorem dX2_init_15 : decode cX2_init 15 = .ok (.newarray .int, 2) := by decide +kernel
theorem dX2_init_17 : decode cX2_init 17 = .ok (.putfield 15, 3) := by decide +kernel
theorem dX2_init_20 : decode cX2_init 20 = .ok (.aload_n 0, 1) := by decide +kernel
theorem dX2_init_21 : decode cX2_init 21 = .ok (.bipush 8, 2) := by decide +kernel
theorem dX2_init_23 : decode cX2_init 23 = .ok (.newarray .int, 2) := by decide +kernel
theorem dX2_init_25 : decode cX2_init 25 = .ok (.putfield 18, 3) := by decide +kernel
theorem dX2_init_28 : decode cX2_init 28 = .ok (.aload_n 0, 1) := by decide +kernel
theorem dX2_init_29 : decode cX2_init 29 = .ok (.bipush 8, 2) := by decide +kernel
theorem dX2_init_31 : decode cX2_init 31 = .ok (.newarray .int, 2) := by decide +kernel
theorem dX2_init_33 : decode cX2_init 33 = .ok (.putfield 21, 3) := by decide +kernel
theorem dX2_init_36 : decode cX2_init 36 = .ok (.aload_n 0, 1) := by decide +kernel
theorem dX2_init_37 : decode cX2_init 37 = .ok (.iconst 0, 1) := by decide +kernel
theorem dX2_init_38 : decode cX2_init 38 = .ok (.putfield 24, 3) := by decide +kernel
theorem dX2_init_41 : decode cX2_init 41 = .ok (.aload_n 0, 1) := by decide +kernel
theorem dX2_init_42 : decode cX2_init 42 = .ok (.lconst 0, 1) := by decide +kernel
theorem dX2_init_43 : decode cX2_init 43 = .ok (.putfield 28, 3) := by decide +kernel
theorem dX2_init_46 : decode cX2_init 46 = .ok (.aload_n 0, 1) := by decide +kernel
theorem dX2_init_47 : decode cX2_init 47 = .ok (.lconst 0, 1) := by decide +kernel
theorem dX2_init_48 : decode cX2_init 48 = .ok (.putfield 32, 3) := by decide +kernel
theorem dX2_init_51 : decode cX2_init 51 = .ok (.aload_n 0, 1) := by decide +kernel
theorem dX2_init_52 : decode cX2_init 52 = .ok (.lconst 0, 1) := by decide +kernel
theorem dX2_init_53 : decode cX2_init 53 = .ok (.putfield 35, 3) := by decide +kernel
theorem dX2_init_56 : decode cX2_init 56 = .ok (.aload_n 0, 1) := by decide +kernel
theorem dX2_init_57 : decode cX2_init 57 = .ok (.lconst 0, 1) := by decide +kernel
theorem dX2_init_58 : decode cX2_init 58 = .ok (.putfield 38, 3) := by decide +kernel
theorem dX2_init_61 : decode cX2_init 61 = .ok (.aload_n 0, 1) := by decide +kernel
theorem dX2_init_62 : decode cX2_init 62 = .ok (.lconst 0, 1) := by decide +kernel
theorem dX2_init_63 : decode cX2_init 63 = .ok (.putfield 41, 3) := by decide +kernel
theorem dX2_init_66 : decode cX2_init 66 = .ok (.aload_n 0, 1) := by decide +kernel
theorem dX2_init_67 : decode cX2_init 67 = .ok (.lconst 0, 1) := by decide +kernel
theorem dX2_init_68 : decode cX2_init 68 = .ok (.putfield 44, 3) := by decide +kernel
theorem dX2_init_71 : decode cX2_init 71 = .ok (.aload_n 0, 1) := by decide +kernel
theorem dX2_init_72 : decode cX2_init 72 = .ok (.lconst 0, 1) := by decide +kernel
theorem dX2_init_73 : decode cX2_init 73 = .ok (.putfield 47, 3) := by decide +kernel
theorem dX2_init_76 : decode cX2_init 76 = .ok (.return_, 1) := by decide +kernel
theorem dX2_start_0 : decode cX2_start 0 = .ok (.aload_n 0, 1) := by decide +kernel
theorem dX2_start_1 : decode cX2_start 1 = .ok (.iconst 0, 1) := by decide +kernel
theorem dX2_start_2 : decode cX2_start 2 = .ok (.putfield 24, 3) := by decide +kernel
theorem dX2_start_5 : decode cX2_start 5 = .ok (.aload_n 0, 1) := by decide +kernel
theorem dX2_start_6 : decode cX2_start 6 = .ok (.lconst 0, 1) := by decide +kernel
theorem dX2_start_7 : decode cX2_start 7 = .ok (.putfield 28, 3) := by decide +kernel
theorem dX2_start_10 : decode cX2_start 10 = .ok (.aload_n 0, 1) := by decide +kernel
theorem dX2_start_11 : decode cX2_start 11 = .ok (.lconst 0, 1) := by decide +kernel
theorem dX2_start_12 : decode cX2_start 12 = .ok (.putfield 32, 3) := by decide +kernel
theorem dX2_start_15 : decode cX2_start 15 = .ok (.aload_n 0, 1) := by decide +kernel
theorem dX2_start_16 : decode cX2_start 16 = .ok (.lconst 0, 1) := by decide +kernel
theorem dX2_start_17 : decode cX2_start 17 = .ok (.putfield 35, 3) := by decide +kernel
theorem dX2_start_20 : decode cX2_start 20 = .ok (.aload_n 0, 1) := by decide +kernel
theorem dX2_start_21 : decode cX2_start 21 = .ok (.lconst 0, 1) := by decide +kernel
theorem dX2_start_22 : decode cX2_start 22 = .ok (.putfield 38, 3) := by decide +kernel
theorem dX2_start_25 : decode cX2_start 25 = .ok (.return_, 1) := by decide +kernel
theorem dX2_take_0 : decode cX2_take 0 = .ok (.aload_n 0, 1) := by decide +kernel
theorem dX2_take_1 : decode cX2_take 1 = .ok (.getfield 24, 3) := by decide +kernel
theorem dX2_take_4 : decode cX2_take 4 = .ok (.bipush 8, 2) := by decide +kernel
theorem dX2_take_6 : decode cX2_take 6 = .ok (.if_icmp .lt 4, 3) := by decide +kernel
theorem dX2_take_9 : decode cX2_take 9 = .ok (.return_, 1) := by decide +kernel
theorem dX2_take_10 : decode cX2_take 10 = .ok (.aload_n 0, 1) := by decide +kernel
theorem dX2_take_11 : decode cX2_take 11 = .ok (.getfield 9, 3) := by decide +kernel
theorem dX2_take_14 : decode cX2_take 14 = .ok (.aload_n 0, 1) := by decide +kernel
theorem dX2_take_15 : decode cX2_take 15 = .ok (.getfield 24, 3) := by decide +kernel
theorem dX2_take_18 : decode cX2_take 18 = .ok (.iload_n 1, 1) := by decide +kernel
theorem dX2_take_19 : decode cX2_take 19 = .ok (.iastore, 1) := by decide +kernel
theorem dX2_take_20 : decode cX2_take 20 = .ok (.aload_n 0, 1) := by decide +kernel
theorem dX2_take_21 : decode cX2_take 21 = .ok (.getfield 15, 3) := by decide +kernel
theorem dX2_take_24 : decode cX2_take 24 = .ok (.aload_n 0, 1) := by decide +kernel
theorem dX2_take_25 : decode cX2_take 25 = .ok (.getfield 24, 3) := by decide +kernel
theorem dX2_take_28 : decode cX2_take 28 = .ok (.iload_n 2, 1) := by decide +kernel
theorem dX2_take_29 : decode cX2_take 29 = .ok (.iastore, 1) := by decide +kernel
theorem dX2_take_30 : decode cX2_take 30 = .ok (.aload_n 0, 1) := by decide +kernel
theorem dX2_take_31 : decode cX2_take 31 = .ok (.getfield 18, 3) := by decide +kernel
theorem dX2_take_34 : decode cX2_take 34 = .ok (.aload_n 0, 1) := by decide +kernel
theorem dX2_take_35 : decode cX2_take 35 = .ok (.getfield 24, 3) := by decide +kernel
theorem dX2_take_38 : decode cX2_take 38 = .ok (.iload_n 3, 1) := by decide +kernel
theorem dX2_take_39 : decode cX2_take 39 = .ok (.iastore, 1) := by decide +kernel
theorem dX2_take_40 : decode cX2_take 40 = .ok (.aload_n 0, 1) := by decide +kernel
theorem dX2_take_41 : decode cX2_take 41 = .ok (.getfield 21, 3) := by decide +kernel
theorem dX2_take_44 : decode cX2_take 44 = .ok (.aload_n 0, 1) := by decide +kernel
theorem dX2_take_45 : decode cX2_take 45 = .ok (.getfield 24, 3) := by decide +kernel
theorem dX2_take_48 : decode cX2_take 48 = .ok (.iload 4, 2) := by decide +kernel
theorem dX2_take_50 : decode cX2_take 50 = .ok (.iastore, 1) := by decide +kernel
theorem dX2_take_51 : decode cX2_take 51 = .ok (.aload_n 0, 1) := by decide +kernel
theorem dX2_take_52 : decode cX2_take 52 = .ok (.dup, 1) := by decide +kernel
theorem dX2_take_53 : decode cX2_take 53 = .ok (.getfield 24, 3) := by decide +kernel
theorem dX2_take_56 : decode cX2_take 56 = .ok (.iconst 1, 1) := by decide +kernel
theorem dX2_take_57 : decode cX2_take 57 = .ok (.iadd, 1) := by decide +kernel
theorem dX2_take_58 : decode cX2_take 58 = .ok (.putfield 24, 3) := by decide +kernel
theorem dX2_take_61 : decode cX2_take 61 = .ok (.aload_n 0, 1) := by decide +kernel
theorem dX2_take_62 : decode cX2_take 62 = .ok (.dup, 1) := by decide +kernel
theorem dX2_take_63 : decode cX2_take 63 = .ok (.getfield 28, 3) := by decide +kernel
theorem dX2_take_66 : decode cX2_take 66 = .ok (.iload_n 1, 1) := by decide +kernel
theorem dX2_take_67 : decode cX2_take 67 = .ok (.i2l, 1) := by decide +kernel
theorem dX2_take_68 : decode cX2_take 68 = .ok (.ladd, 1) := by decide +kernel
theorem dX2_take_69 : decode cX2_take 69 = .ok (.putfield 28, 3) := by decide +kernel
theorem dX2_take_72 : decode cX2_take 72 = .ok (.aload_n 0, 1) := by decide +kernel
theorem dX2_take_73 : decode cX2_take 73 = .ok (.dup, 1) := by decide +kernel
theorem dX2_take_74 : decode cX2_take 74 = .ok (.getfield 32, 3) := by decide +kernel
theorem dX2_take_77 : decode cX2_take 77 = .ok (.iload_n 2, 1) := by decide +kernel
theorem dX2_take_78 : decode cX2_take 78 = .ok (.i2l, 1) := by decide +kernel
theorem dX2_take_79 : decode cX2_take 79 = .ok (.ladd, 1) := by decide +kernel
theorem dX2_take_80 : decode cX2_take 80 = .ok (.putfield 32, 3) := by decide +kernel
theorem dX2_take_83 : decode cX2_take 83 = .ok (.aload_n 0, 1) := by decide +kernel
theorem dX2_take_84 : decode cX2_take 84 = .ok (.dup, 1) := by decide +kernel
theorem dX2_take_85 : decode cX2_take 85 = .ok (.getfield 35, 3) := by decide +kernel
theorem dX2_take_88 : decode cX2_take 88 = .ok (.iload_n 3, 1) := by decide +kernel
theorem dX2_take_89 : decode cX2_take 89 = .ok (.i2l, 1) := by decide +kernel
theorem dX2_take_90 : decode cX2_take 90 = .ok (.ladd, 1) := by decide +kernel
theorem dX2_take_91 : decode cX2_take 91 = .ok (.putfield 35, 3) := by decide +kernel
theorem dX2_take_94 : decode cX2_take 94 = .ok (.aload_n 0, 1) := by decide +kernel
theorem dX2_take_95 : decode cX2_take 95 = .ok (.dup, 1) := by decide +kernel
theorem dX2_take_96 : decode cX2_take 96 = .ok (.getfield 38, 3) := by decide +kernel
theorem dX2_take_99 : decode cX2_take 99 = .ok (.iload 4, 2) := by decide +kernel
theorem dX2_take_101 : decode cX2_take 101 = .ok (.i2l, 1) := by decide +kernel
theorem dX2_take_102 : decode cX2_take 102 = .ok (.ladd, 1) := by decide +kernel
theorem dX2_take_103 : decode cX2_take 103 = .ok (.putfield 38, 3) := by decide +kernel
theorem dX2_take_106 : decode cX2_take 106 = .ok (.return_, 1) := by decide +kernel
theorem dX2_solve_0 : decode cX2_solve 0 = .ok (.aload_n 0, 1) := by decide +kernel
theorem dX2_solve_1 : decode cX2_solve 1 = .ok (.lconst 0, 1) := by decide +kernel
theorem dX2_solve_2 : decode cX2_solve 2 = .ok (.putfield 41, 3) := by decide +kernel
theorem dX2_solve_5 : decode cX2_solve 5 = .ok (.aload_n 0, 1) := by decide +kernel
theorem dX2_solve_6 : decode cX2_solve 6 = .ok (.lconst 0, 1) := by decide +kernel
theorem dX2_solve_7 : decode cX2_solve 7 = .ok (.putfield 44, 3) := by decide +kernel
theorem dX2_solve_10 : decode cX2_solve 10 = .ok (.aload_n 0, 1) := by decide +kernel
theorem dX2_solve_11 : decode cX2_solve 11 = .ok (.lconst 0, 1) := by decide +kernel
theorem dX2_solve_12 : decode cX2_solve 12 = .ok (.putfield 47, 3) := by decide +kernel
theorem dX2_solve_15 : decode cX2_solve 15 = .ok (.iconst 0, 1) := by decide +kernel
theorem dX2_solve_16 : decode cX2_solve 16 = .ok (.istore_n 1, 1) := by decide +kernel
theorem dX2_solve_17 : decode cX2_solve 17 = .ok (.iload_n 1, 1) := by decide +kernel
theorem dX2_solve_18 : decode cX2_solve 18 = .ok (.aload_n 0, 1) := by decide +kernel
theorem dX2_solve_19 : decode cX2_solve 19 = .ok (.getfield 24, 3) := by decide +kernel
theorem dX2_solve_22 : decode cX2_solve 22 = .ok (.if_icmp .ge 144, 3) := by decide +kernel
theorem dX2_solve_25 : decode cX2_solve 25 = .ok (.aload_n 0, 1) := by decide +kernel
theorem dX2_solve_26 : decode cX2_solve 26 = .ok (.getfield 24, 3) := by decide +kernel
theorem dX2_solve_29 : decode cX2_solve 29 = .ok (.i2l, 1) := by decide +kernel
theorem dX2_solve_30 : decode cX2_solve 30 = .ok (.aload_n 0, 1) := by decide +kernel
theorem dX2_solve_31 : decode cX2_solve 31 = .ok (.getfield 9, 3) := by decide +kernel
theorem dX2_solve_34 : decode cX2_solve 34 = .ok (.iload_n 1, 1) := by decide +kernel
theorem dX2_solve_35 : decode cX2_solve 35 = .ok (.iaload, 1) := by decide +kernel
theorem dX2_solve_36 : decode cX2_solve 36 = .ok (.i2l, 1) := by decide +kernel
theorem dX2_solve_37 : decode cX2_solve 37 = .ok (.lmul, 1) := by decide +kernel
theorem dX2_solve_38 : decode cX2_solve 38 = .ok (.aload_n 0, 1) := by decide +kernel
theorem dX2_solve_39 : decode cX2_solve 39 = .ok (.getfield 28, 3) := by decide +kernel
theorem dX2_solve_42 : decode cX2_solve 42 = .ok (.lsub, 1) := by decide +kernel
theorem dX2_solve_43 : decode cX2_solve 43 = .ok (.lstore_n 2, 1) := by decide +kernel
theorem dX2_solve_44 : decode cX2_solve 44 = .ok (.aload_n 0, 1) := by decide +kernel
theorem dX2_solve_45 : decode cX2_solve 45 = .ok (.getfield 24, 3) := by decide +kernel
theorem dX2_solve_48 : decode cX2_solve 48 = .ok (.i2l, 1) := by decide +kernel
theorem dX2_solve_49 : decode cX2_solve 49 = .ok (.aload_n 0, 1) := by decide +kernel
theorem dX2_solve_50 : decode cX2_solve 50 = .ok (.getfield 15, 3) := by decide +kernel
theorem dX2_solve_53 : decode cX2_solve 53 = .ok (.iload_n 1, 1) := by decide +kernel
theorem dX2_solve_54 : decode cX2_solve 54 = .ok (.iaload, 1) := by decide +kernel
theorem dX2_solve_55 : decode cX2_solve 55 = .ok (.i2l, 1) := by decide +kernel
theorem dX2_solve_56 : decode cX2_solve 56 = .ok (.lmul, 1) := by decide +kernel
theorem dX2_solve_57 : decode cX2_solve 57 = .ok (.aload_n 0, 1) := by decide +kernel
theorem dX2_solve_58 : decode cX2_solve 58 = .ok (.getfield 32, 3) := by decide +kernel
theorem dX2_solve_61 : decode cX2_solve 61 = .ok (.lsub, 1) := by decide +kernel
theorem dX2_solve_62 : decode cX2_solve 62 = .ok (.lstore 4, 2) := by decide +kernel
theorem dX2_solve_64 : decode cX2_solve 64 = .ok (.aload_n 0, 1) := by decide +kernel
theorem dX2_solve_65 : decode cX2_solve 65 = .ok (.getfield 24, 3) := by decide +kernel
theorem dX2_solve_68 : decode cX2_solve 68 = .ok (.i2l, 1) := by decide +kernel
theorem dX2_solve_69 : decode cX2_solve 69 = .ok (.aload_n 0, 1) := by decide +kernel
theorem dX2_solve_70 : decode cX2_solve 70 = .ok (.getfield 18, 3) := by decide +kernel
theorem dX2_solve_73 : decode cX2_solve 73 = .ok (.iload_n 1, 1) := by decide +kernel
theorem dX2_solve_74 : decode cX2_solve 74 = .ok (.iaload, 1) := by decide +kernel
theorem dX2_solve_75 : decode cX2_solve 75 = .ok (.i2l, 1) := by decide +kernel
theorem dX2_solve_76 : decode cX2_solve 76 = .ok (.lmul, 1) := by decide +kernel
theorem dX2_solve_77 : decode cX2_solve 77 = .ok (.aload_n 0, 1) := by decide +kernel
theorem dX2_solve_78 : decode cX2_solve 78 = .ok (.getfield 35, 3) := by decide +kernel
theorem dX2_solve_81 : decode cX2_solve 81 = .ok (.lsub, 1) := by decide +kernel
theorem dX2_solve_82 : decode cX2_solve 82 = .ok (.lstore 6, 2) := by decide +kernel
theorem dX2_solve_84 : decode cX2_solve 84 = .ok (.aload_n 0, 1) := by decide +kernel
theorem dX2_solve_85 : decode cX2_solve 85 = .ok (.getfield 24, 3) := by decide +kernel
theorem dX2_solve_88 : decode cX2_solve 88 = .ok (.i2l, 1) := by decide +kernel
theorem dX2_solve_89 : decode cX2_solve 89 = .ok (.aload_n 0, 1) := by decide +kernel
theorem dX2_solve_90 : decode cX2_solve 90 = .ok (.getfield 21, 3) := by decide +kernel
theorem dX2_solve_93 : decode cX2_solve 93 = .ok (.iload_n 1, 1) := by decide +kernel
theorem dX2_solve_94 : decode cX2_solve 94 = .ok (.iaload, 1) := by decide +kernel
theorem dX2_solve_95 : decode cX2_solve 95 = .ok (.i2l, 1) := by decide +kernel
theorem dX2_solve_96 : decode cX2_solve 96 = .ok (.lmul, 1) := by decide +kernel
theorem dX2_solve_97 : decode cX2_solve 97 = .ok (.aload_n 0, 1) := by decide +kernel
theorem dX2_solve_98 : decode cX2_solve 98 = .ok (.getfield 38, 3) := by decide +kernel
theorem dX2_solve_101 : decode cX2_solve 101 = .ok (.lsub, 1) := by decide +kernel
theorem dX2_solve_102 : decode cX2_solve 102 = .ok (.lstore 8, 2) := by decide +kernel
theorem dX2_solve_104 : decode cX2_solve 104 = .ok (.aload_n 0, 1) := by decide +kernel
theorem dX2_solve_105 : decode cX2_solve 105 = .ok (.dup, 1) := by decide +kernel
theorem dX2_solve_106 : decode cX2_solve 106 = .ok (.getfield 47, 3) := by decide +kernel
theorem dX2_solve_109 : decode cX2_solve 109 = .ok (.lload_n 2, 1) := by decide +kernel
theorem dX2_solve_110 : decode cX2_solve 110 = .ok (.lload_n 2, 1) := by decide +kernel
theorem dX2_solve_111 : decode cX2_solve 111 = .ok (.lmul, 1) := by decide +kernel
theorem dX2_solve_112 : decode cX2_solve 112 = .ok (.lload 4, 2) := by decide +kernel
theorem dX2_solve_114 : decode cX2_solve 114 = .ok (.lload 4, 2) := by decide +kernel
theorem dX2_solve_116 : decode cX2_solve 116 = .ok (.lmul, 1) := by decide +kernel
theorem dX2_solve_117 : decode cX2_solve 117 = .ok (.ladd, 1) := by decide +kernel
theorem dX2_solve_118 : decode cX2_solve 118 = .ok (.ladd, 1) := by decide +kernel
theorem dX2_solve_119 : decode cX2_solve 119 = .ok (.putfield 47, 3) := by decide +kernel
theorem dX2_solve_122 : decode cX2_solve 122 = .ok (.aload_n 0, 1) := by decide +kernel
theorem dX2_solve_123 : decode cX2_solve 123 = .ok (.dup, 1) := by decide +kernel
theorem dX2_solve_124 : decode cX2_solve 124 = .ok (.getfield 41, 3) := by decide +kernel
theorem dX2_solve_127 : decode cX2_solve 127 = .ok (.lload_n 2, 1) := by decide +kernel
theorem dX2_solve_128 : decode cX2_solve 128 = .ok (.lload 6, 2) := by decide +kernel
theorem dX2_solve_130 : decode cX2_solve 130 = .ok (.lmul, 1) := by decide +kernel
theorem dX2_solve_131 : decode cX2_solve 131 = .ok (.lload 4, 2) := by decide +kernel
theorem dX2_solve_133 : decode cX2_solve 133 = .ok (.lload 8, 2) := by decide +kernel
theorem dX2_solve_135 : decode cX2_solve 135 = .ok (.lmul, 1) := by decide +kernel
theorem dX2_solve_136 : decode cX2_solve 136 = .ok (.ladd, 1) := by decide +kernel
theorem dX2_solve_137 : decode cX2_solve 137 = .ok (.ladd, 1) := by decide +kernel
theorem dX2_solve_138 : decode cX2_solve 138 = .ok (.putfield 41, 3) := by decide +kernel
theorem dX2_solve_141 : decode cX2_solve 141 = .ok (.aload_n 0, 1) := by decide +kernel
theorem dX2_solve_142 : decode cX2_solve 142 = .ok (.dup, 1) := by decide +kernel
theorem dX2_solve_143 : decode cX2_solve 143 = .ok (.getfield 44, 3) := by decide +kernel
theorem dX2_solve_146 : decode cX2_solve 146 = .ok (.lload_n 2, 1) := by decide +kernel
theorem dX2_solve_147 : decode cX2_solve 147 = .ok (.lload 8, 2) := by decide +kernel
theorem dX2_solve_149 : decode cX2_solve 149 = .ok (.lmul, 1) := by decide +kernel
theorem dX2_solve_150 : decode cX2_solve 150 = .ok (.lload 4, 2) := by decide +kernel
theorem dX2_solve_152 : decode cX2_solve 152 = .ok (.lload 6, 2) := by decide +kernel
theorem dX2_solve_154 : decode cX2_solve 154 = .ok (.lmul, 1) := by decide +kernel
theorem dX2_solve_155 : decode cX2_solve 155 = .ok (.lsub, 1) := by decide +kernel
theorem dX2_solve_156 : decode cX2_solve 156 = .ok (.ladd, 1) := by decide +kernel
theorem dX2_solve_157 : decode cX2_solve 157 = .ok (.putfield 44, 3) := by decide +kernel
theorem dX2_solve_160 : decode cX2_solve 160 = .ok (.iinc 1 1, 3) := by decide +kernel
theorem dX2_solve_163 : decode cX2_solve 163 = .ok (.goto (-146), 3) := by decide +kernel
theorem dX2_solve_166 : decode cX2_solve 166 = .ok (.aload_n 0, 1) := by decide +kernel
theorem dX2_solve_167 : decode cX2_solve 167 = .ok (.getfield 24, 3) := by decide +kernel
theorem dX2_solve_170 : decode cX2_solve 170 = .ok (.iconst 2, 1) := by decide +kernel
theorem dX2_solve_171 : decode cX2_solve 171 = .ok (.if_icmp .lt 16, 3) := by decide +kernel
theorem dX2_solve_174 : decode cX2_solve 174 = .ok (.aload_n 0, 1) := by decide +kernel
theorem dX2_solve_175 : decode cX2_solve 175 = .ok (.getfield 47, 3) := by decide +kernel
theorem dX2_solve_178 : decode cX2_solve 178 = .ok (.lconst 0, 1) := by decide +kernel
theorem dX2_solve_179 : decode cX2_solve 179 = .ok (.lcmp, 1) := by decide +kernel
theorem dX2_solve_180 : decode cX2_solve 180 = .ok (.ifCond .le 7, 3) := by decide +kernel
theorem dX2_solve_183 : decode cX2_solve 183 = .ok (.iconst 1, 1) := by decide +kernel
theorem dX2_solve_184 : decode cX2_solve 184 = .ok (.goto 4, 3) := by decide +kernel
theorem dX2_solve_187 : decode cX2_solve 187 = .ok (.iconst 0, 1) := by decide +kernel
theorem dX2_solve_188 : decode cX2_solve 188 = .ok (.ireturn, 1) := by decide +kernel
theorem dX2_placeOf_0 : decode cX2_placeOf 0 = .ok (.aload_n 0, 1) := by decide +kernel
theorem dX2_placeOf_1 : decode cX2_placeOf 1 = .ok (.getfield 24, 3) := by decide +kernel
theorem dX2_placeOf_4 : decode cX2_placeOf 4 = .ok (.i2l, 1) := by decide +kernel
theorem dX2_placeOf_5 : decode cX2_placeOf 5 = .ok (.aload_n 0, 1) := by decide +kernel
theorem dX2_placeOf_6 : decode cX2_placeOf 6 = .ok (.getfield 47, 3) := by decide +kernel
theorem dX2_placeOf_9 : decode cX2_placeOf 9 = .ok (.lmul, 1) := by decide +kernel
theorem dX2_placeOf_10 : decode cX2_placeOf 10 = .ok (.lstore 4, 2) := by decide +kernel
theorem dX2_placeOf_12 : decode cX2_placeOf 12 = .ok (.lload 4, 2) := by decide +kernel
theorem dX2_placeOf_14 : decode cX2_placeOf 14 = .ok (.lconst 0, 1) := by decide +kernel
theorem dX2_placeOf_15 : decode cX2_placeOf 15 = .ok (.lcmp, 1) := by decide +kernel
theorem dX2_placeOf_16 : decode cX2_placeOf 16 = .ok (.ifCond .gt 7, 3) := by decide +kernel
theorem dX2_placeOf_19 : decode cX2_placeOf 19 = .ok (.ldc2_w 50, 3) := by decide +kernel
theorem dX2_placeOf_22 : decode cX2_placeOf 22 = .ok (.lreturn, 1) := by decide +kernel
theorem dX2_placeOf_23 : decode cX2_placeOf 23 = .ok (.aload_n 0, 1) := by decide +kernel
theorem dX2_placeOf_24 : decode cX2_placeOf 24 = .ok (.getfield 24, 3) := by decide +kernel
theorem dX2_placeOf_27 : decode cX2_placeOf 27 = .ok (.i2l, 1) := by decide +kernel
theorem dX2_placeOf_28 : decode cX2_placeOf 28 = .ok (.iload_n 1, 1) := by decide +kernel
theorem dX2_placeOf_29 : decode cX2_placeOf 29 = .ok (.i2l, 1) := by decide +kernel
theorem dX2_placeOf_30 : decode cX2_placeOf 30 = .ok (.lmul, 1) := by decide +kernel
theorem dX2_placeOf_31 : decode cX2_placeOf 31 = .ok (.aload_n 0, 1) := by decide +kernel
theorem dX2_placeOf_32 : decode cX2_placeOf 32 = .ok (.getfield 28, 3) := by decide +kernel
theorem dX2_placeOf_35 : decode cX2_placeOf 35 = .ok (.lsub, 1) := by decide +kernel
theorem dX2_placeOf_36 : decode cX2_placeOf 36 = .ok (.lstore 6, 2) := by decide +kernel
theorem dX2_placeOf_38 : decode cX2_placeOf 38 = .ok (.aload_n 0, 1) := by decide +kernel
theorem dX2_placeOf_39 : decode cX2_placeOf 39 = .ok (.getfield 24, 3) := by decide +kernel
theorem dX2_placeOf_42 : decode cX2_placeOf 42 = .ok (.i2l, 1) := by decide +kernel
theorem dX2_placeOf_43 : decode cX2_placeOf 43 = .ok (.iload_n 2, 1) := by decide +kernel
theorem dX2_placeOf_44 : decode cX2_placeOf 44 = .ok (.i2l, 1) := by decide +kernel
theorem dX2_placeOf_45 : decode cX2_placeOf 45 = .ok (.lmul, 1) := by decide +kernel
theorem dX2_placeOf_46 : decode cX2_placeOf 46 = .ok (.aload_n 0, 1) := by decide +kernel
theorem dX2_placeOf_47 : decode cX2_placeOf 47 = .ok (.getfield 32, 3) := by decide +kernel
theorem dX2_placeOf_50 : decode cX2_placeOf 50 = .ok (.lsub, 1) := by decide +kernel
theorem dX2_placeOf_51 : decode cX2_placeOf 51 = .ok (.lstore 8, 2) := by decide +kernel
theorem dX2_placeOf_53 : decode cX2_placeOf 53 = .ok (.iload_n 3, 1) := by decide +kernel
theorem dX2_placeOf_54 : decode cX2_placeOf 54 = .ok (.ifCond .ne 31, 3) := by decide +kernel
theorem dX2_placeOf_57 : decode cX2_placeOf 57 = .ok (.aload_n 0, 1) := by decide +kernel
theorem dX2_placeOf_58 : decode cX2_placeOf 58 = .ok (.getfield 35, 3) := by decide +kernel
theorem dX2_placeOf_61 : decode cX2_placeOf 61 = .ok (.aload_n 0, 1) := by decide +kernel
theorem dX2_placeOf_62 : decode cX2_placeOf 62 = .ok (.getfield 47, 3) := by decide +kernel
theorem dX2_placeOf_65 : decode cX2_placeOf 65 = .ok (.lmul, 1) := by decide +kernel
theorem dX2_placeOf_66 : decode cX2_placeOf 66 = .ok (.aload_n 0, 1) := by decide +kernel
theorem dX2_placeOf_67 : decode cX2_placeOf 67 = .ok (.getfield 41, 3) := by decide +kernel
theorem dX2_placeOf_70 : decode cX2_placeOf 70 = .ok (.lload 6, 2) := by decide +kernel
theorem dX2_placeOf_72 : decode cX2_placeOf 72 = .ok (.lmul, 1) := by decide +kernel
theorem dX2_placeOf_73 : decode cX2_placeOf 73 = .ok (.ladd, 1) := by decide +kernel
theorem dX2_placeOf_74 : decode cX2_placeOf 74 = .ok (.aload_n 0, 1) := by decide +kernel
theorem dX2_placeOf_75 : decode cX2_placeOf 75 = .ok (.getfield 44, 3) := by decide +kernel
theorem dX2_placeOf_78 : decode cX2_placeOf 78 = .ok (.lload 8, 2) := by decide +kernel
theorem dX2_placeOf_80 : decode cX2_placeOf 80 = .ok (.lmul, 1) := by decide +kernel
theorem dX2_placeOf_81 : decode cX2_placeOf 81 = .ok (.lsub, 1) := by decide +kernel
theorem dX2_placeOf_82 : decode cX2_placeOf 82 = .ok (.goto 28, 3) := by decide +kernel
theorem dX2_placeOf_85 : decode cX2_placeOf 85 = .ok (.aload_n 0, 1) := by decide +kernel
theorem dX2_placeOf_86 : decode cX2_placeOf 86 = .ok (.getfield 38, 3) := by decide +kernel
theorem dX2_placeOf_89 : decode cX2_placeOf 89 = .ok (.aload_n 0, 1) := by decide +kernel
theorem dX2_placeOf_90 : decode cX2_placeOf 90 = .ok (.getfield 47, 3) := by decide +kernel
theorem dX2_placeOf_93 : decode cX2_placeOf 93 = .ok (.lmul, 1) := by decide +kernel
theorem dX2_placeOf_94 : decode cX2_placeOf 94 = .ok (.aload_n 0, 1) := by decide +kernel
theorem dX2_placeOf_95 : decode cX2_placeOf 95 = .ok (.getfield 44, 3) := by decide +kernel
theorem dX2_placeOf_98 : decode cX2_placeOf 98 = .ok (.lload 6, 2) := by decide +kernel
theorem dX2_placeOf_100 : decode cX2_placeOf 100 = .ok (.lmul, 1) := by decide +kernel
theorem dX2_placeOf_101 : decode cX2_placeOf 101 = .ok (.ladd, 1) := by decide +kernel
theorem dX2_placeOf_102 : decode cX2_placeOf 102 = .ok (.aload_n 0, 1) := by decide +kernel
theorem dX2_placeOf_103 : decode cX2_placeOf 103 = .ok (.getfield 41, 3) := by decide +kernel
theorem dX2_placeOf_106 : decode cX2_placeOf 106 = .ok (.lload 8, 2) := by decide +kernel
theorem dX2_placeOf_108 : decode cX2_placeOf 108 = .ok (.lmul, 1) := by decide +kernel
theorem dX2_placeOf_109 : decode cX2_placeOf 109 = .ok (.ladd, 1) := by decide +kernel
theorem dX2_placeOf_110 : decode cX2_placeOf 110 = .ok (.lstore 10, 2) := by decide +kernel
theorem dX2_placeOf_112 : decode cX2_placeOf 112 = .ok (.lload 10, 2) := by decide +kernel
theorem dX2_placeOf_114 : decode cX2_placeOf 114 = .ok (.lload 4, 2) := by decide +kernel
theorem dX2_placeOf_116 : decode cX2_placeOf 116 = .ok (.invokestatic 52, 3) := by decide +kernel
theorem dX2_placeOf_119 : decode cX2_placeOf 119 = .ok (.lreturn, 1) := by decide +kernel
theorem dX3_init_0 : decode cX3_init 0 = .ok (.aload_n 0, 1) := by decide +kernel
theorem dX3_init_1 : decode cX3_init 1 = .ok (.invokespecial 3, 3) := by decide +kernel
theorem dX3_init_4 : decode cX3_init 4 = .ok (.aload_n 0, 1) := by decide +kernel
theorem dX3_init_5 : decode cX3_init 5 = .ok (.bipush 8, 2) := by decide +kernel
theorem dX3_init_7 : decode cX3_init 7 = .ok (.newarray .int, 2) := by decide +kernel
theorem dX3_init_9 : decode cX3_init 9 = .ok (.putfield 9, 3) := by decide +kernel
theorem dX3_init_12 : decode cX3_init 12 = .ok (.aload_n 0, 1) := by decide +kernel
theorem dX3_init_13 : decode cX3_init 13 = .ok (.bipush 8, 2) := by decide +kernel
theorem dX3_init_15 : decode cX3_init 15 = .ok (.newarray .int, 2) := by decide +kernel
theorem dX3_init_17 : decode cX3_init 17 = .ok (.putfield 15, 3) := by decide +kernel
theorem dX3_init_20 : decode cX3_init 20 = .ok (.aload_n 0, 1) := by decide +kernel
theorem dX3_init_21 : decode cX3_init 21 = .ok (.bipush 8, 2) := by decide +kernel
theorem dX3_init_23 : decode cX3_init 23 = .ok (.newarray .int, 2) := by decide +kernel
theorem dX3_init_25 : decode cX3_init 25 = .ok (.putfield 18, 3) := by decide +kernel
theorem dX3_init_28 : decode cX3_init 28 = .ok (.aload_n 0, 1) := by decide +kernel
theorem dX3_init_29 : decode cX3_init 29 = .ok (.iconst 0, 1) := by decide +kernel
theorem dX3_init_30 : decode cX3_init 30 = .ok (.putfield 21, 3) := by decide +kernel
theorem dX3_init_33 : decode cX3_init 33 = .ok (.aload_n 0, 1) := by decide +kernel
theorem dX3_init_34 : decode cX3_init 34 = .ok (.bipush 8, 2) := by decide +kernel
theorem dX3_init_36 : decode cX3_init 36 = .ok (.newarray .long, 2) := by decide +kernel
theorem dX3_init_38 : decode cX3_init 38 = .ok (.putfield 25, 3) := by decide +kernel
theorem dX3_init_41 : decode cX3_init 41 = .ok (.aload_n 0, 1) := by decide +kernel
theorem dX3_init_42 : decode cX3_init 42 = .ok (.bipush 8, 2) := by decide +kernel
theorem dX3_init_44 : decode cX3_init 44 = .ok (.newarray .long, 2) := by decide +kernel
theorem dX3_init_46 : decode cX3_init 46 = .ok (.putfield 29, 3) := by decide +kernel
theorem dX3_init_49 : decode cX3_init 49 = .ok (.aload_n 0, 1) := by decide +kernel
theorem dX3_init_50 : decode cX3_init 50 = .ok (.bipush 8, 2) := by decide +kernel
theorem dX3_init_52 : decode cX3_init 52 = .ok (.newarray .boolean, 2) := by decide +kernel
theorem dX3_init_54 : decode cX3_init 54 = .ok (.putfield 32, 3) := by decide +kernel
theorem dX3_init_57 : decode cX3_init 57 = .ok (.aload_n 0, 1) := by decide +kernel
theorem dX3_init_58 : decode cX3_init 58 = .ok (.bipush 8, 2) := by decide +kernel
theorem dX3_init_60 : decode cX3_init 60 = .ok (.newarray .boolean, 2) := by decide +kernel
theorem dX3_init_62 : decode cX3_init 62 = .ok (.putfield 36, 3) := by decide +kernel
theorem dX3_init_65 : decode cX3_init 65 = .ok (.return_, 1) := by decide +kernel
theorem dX3_start_0 : decode cX3_start 0 = .ok (.aload_n 0, 1) := by decide +kernel
theorem dX3_start_1 : decode cX3_start 1 = .ok (.iconst 0, 1) := by decide +kernel
theorem dX3_start_2 : decode cX3_start 2 = .ok (.putfield 21, 3) := by decide +kernel
theorem dX3_start_5 : decode cX3_start 5 = .ok (.iconst 0, 1) := by decide +kernel
theorem dX3_start_6 : decode cX3_start 6 = .ok (.istore 5, 2) := by decide +kernel
theorem dX3_start_8 : decode cX3_start 8 = .ok (.iload 5, 2) := by decide +kernel
theorem dX3_start_10 : decode cX3_start 10 = .ok (.aload_n 1, 1) := by decide +kernel
theorem dX3_start_11 : decode cX3_start 11 = .ok (.getfield 39, 3) := by decide +kernel
theorem dX3_start_14 : decode cX3_start 14 = .ok (.if_icmp .ge 61, 3) := by decide +kernel
theorem dX3_start_17 : decode cX3_start 17 = .ok (.aload_n 0, 1) := by decide +kernel
theorem dX3_start_18 : decode cX3_start 18 = .ok (.getfield 25, 3) := by decide +kernel
theorem dX3_start_21 : decode cX3_start 21 = .ok (.iload 5, 2) := by decide +kernel
theorem dX3_start_23 : decode cX3_start 23 = .ok (.aload_n 2, 1) := by decide +kernel
theorem dX3_start_24 : decode cX3_start 24 = .ok (.aload_n 1, 1) := by decide +kernel
theorem dX3_start_25 : decode cX3_start 25 = .ok (.getfield 42, 3) := by decide +kernel
theorem dX3_start_28 : decode cX3_start 28 = .ok (.iload 5, 2) := by decide +kernel
theorem dX3_start_30 : decode cX3_start 30 = .ok (.iaload, 1) := by decide +kernel
theorem dX3_start_31 : decode cX3_start 31 = .ok (.aload_n 1, 1) := by decide +kernel
theorem dX3_start_32 : decode cX3_start 32 = .ok (.getfield 45, 3) := by decide +kernel
theorem dX3_start_35 : decode cX3_start 35 = .ok (.iload 5, 2) := by decide +kernel
theorem dX3_start_37 : decode cX3_start 37 = .ok (.iaload, 1) := by decide +kernel
theorem dX3_start_38 : decode cX3_start 38 = .ok (.iconst 0, 1) := by decide +kernel
theorem dX3_start_39 : decode cX3_start 39 = .ok (.invokevirtual 48, 3) := by decide +kernel
theorem dX3_start_42 : decode cX3_start 42 = .ok (.lastore, 1) := by decide +kernel
theorem dX3_start_43 : decode cX3_start 43 = .ok (.aload_n 0, 1) := by decide +kernel
theorem dX3_start_44 : decode cX3_start 44 = .ok (.getfield 29, 3) := by decide +kernel
theorem dX3_start_47 : decode cX3_start 47 = .ok (.iload 5, 2) := by decide +kernel
theorem dX3_start_49 : decode cX3_start 49 = .ok (.aload_n 2, 1) := by decide +kernel
theorem dX3_start_50 : decode cX3_start 50 = .ok (.aload_n 1, 1) := by decide +kernel
theorem dX3_start_51 : decode cX3_start 51 = .ok (.getfield 42, 3) := by decide +kernel
theorem dX3_start_54 : decode cX3_start 54 = .ok (.iload 5, 2) := by decide +kernel
theorem dX3_start_56 : decode cX3_start 56 = .ok (.iaload, 1) := by decide +kernel
theorem dX3_start_57 : decode cX3_start 57 = .ok (.aload_n 1, 1) := by decide +kernel
theorem dX3_start_58 : decode cX3_start 58 = .ok (.getfield 45, 3) := by decide +kernel
theorem dX3_start_61 : decode cX3_start 61 = .ok (.iload 5, 2) := by decide +kernel
theorem dX3_start_63 : decode cX3_start 63 = .ok (.iaload, 1) := by decide +kernel
theorem dX3_start_64 : decode cX3_start 64 = .ok (.iconst 1, 1) := by decide +kernel
theorem dX3_start_65 : decode cX3_start 65 = .ok (.invokevirtual 48, 3) := by decide +kernel
theorem dX3_start_68 : decode cX3_start 68 = .ok (.lastore, 1) := by decide +kernel
theorem dX3_start_69 : decode cX3_start 69 = .ok (.iinc 5 1, 3) := by decide +kernel
theorem dX3_start_72 : decode cX3_start 72 = .ok (.goto (-64), 3) := by decide +kernel
theorem dX3_start_75 : decode cX3_start 75 = .ok (.iconst 0, 1) := by decide +kernel
theorem dX3_start_76 : decode cX3_start 76 = .ok (.istore 5, 2) := by decide +kernel
theorem dX3_start_78 : decode cX3_start 78 = .ok (.iload 5, 2) := by decide +kernel
theorem dX3_start_80 : decode cX3_start 80 = .ok (.bipush 8, 2) := by decide +kernel
theorem dX3_start_82 : decode cX3_start 82 = .ok (.if_icmp .ge 38, 3) := by decide +kernel
theorem dX3_start_85 : decode cX3_start 85 = .ok (.aload_n 0, 1) := by decide +kernel
theorem dX3_start_86 : decode cX3_start 86 = .ok (.getfield 32, 3) := by decide +kernel
theorem dX3_start_89 : decode cX3_start 89 = .ok (.iload 5, 2) := by decide +kernel
theorem dX3_start_91 : decode cX3_start 91 = .ok (.aload_n 3, 1) := by decide +kernel
theorem dX3_start_92 : decode cX3_start 92 = .ok (.getfield 54, 3) := by decide +kernel
theorem dX3_start_95 : decode cX3_start 95 = .ok (.iload 5, 2) := by decide +kernel
theorem dX3_start_97 : decode cX3_start 97 = .ok (.baload, 1) := by decide +kernel
theorem dX3_start_98 : decode cX3_start 98 = .ok (.bastore, 1) := by decide +kernel
theorem dX3_start_99 : decode cX3_start 99 = .ok (.aload_n 0, 1) := by decide +kernel
theorem dX3_start_100 : decode cX3_start 100 = .ok (.getfield 36, 3) := by decide +kernel
theorem dX3_start_103 : decode cX3_start 103 = .ok (.iload 5, 2) := by decide +kernel
theorem dX3_start_105 : decode cX3_start 105 = .ok (.aload 4, 2) := by decide +kernel
theorem dX3_start_107 : decode cX3_start 107 = .ok (.getfield 54, 3) := by decide +kernel
theorem dX3_start_110 : decode cX3_start 110 = .ok (.iload 5, 2) := by decide +kernel
theorem dX3_start_112 : decode cX3_start 112 = .ok (.baload, 1) := by decide +kernel
theorem dX3_start_113 : decode cX3_start 113 = .ok (.bastore, 1) := by decide +kernel
theorem dX3_start_114 : decode cX3_start 114 = .ok (.iinc 5 1, 3) := by decide +kernel
theorem dX3_start_117 : decode cX3_start 117 = .ok (.goto (-39), 3) := by decide +kernel
theorem dX3_start_120 : decode cX3_start 120 = .ok (.return_, 1) := by decide +kernel
theorem dX3_addNearest_0 : decode cX3_addNearest 0 = .ok (.aload_n 0, 1) := by decide +kernel
theorem dX3_addNearest_1 : decode cX3_addNearest 1 = .ok (.getfield 21, 3) := by decide +kernel
theorem dX3_addNearest_4 : decode cX3_addNearest 4 = .ok (.bipush 8, 2) := by decide +kernel
theorem dX3_addNearest_6 : decode cX3_addNearest 6 = .ok (.if_icmp .lt 5, 3) := by decide +kernel
theorem dX3_addNearest_9 : decode cX3_addNearest 9 = .ok (.iconst 0, 1) := by decide +kernel
theorem dX3_addNearest_10 : decode cX3_addNearest 10 = .ok (.ireturn, 1) := by decide +kernel
theorem dX3_addNearest_11 : decode cX3_addNearest 11 = .ok (.iload_n 3, 1) := by decide +kernel
theorem dX3_addNearest_12 : decode cX3_addNearest 12 = .ok (.i2l, 1) := by decide +kernel
theorem dX3_addNearest_13 : decode cX3_addNearest 13 = .ok (.lconst 1, 1) := by decide +kernel
theorem dX3_addNearest_14 : decode cX3_addNearest 14 = .ok (.ladd, 1) := by decide +kernel
theorem dX3_addNearest_15 : decode cX3_addNearest 15 = .ok (.lstore 4, 2) := by decide +kernel
theorem dX3_addNearest_17 : decode cX3_addNearest 17 = .ok (.bipush (-9), 2) := by decide +kernel
theorem dX3_addNearest_19 : decode cX3_addNearest 19 = .ok (.istore 6, 2) := by decide +kernel
theorem dX3_addNearest_21 : decode cX3_addNearest 21 = .ok (.bipush (-9), 2) := by decide +kernel
theorem dX3_addNearest_23 : decode cX3_addNearest 23 = .ok (.istore 7, 2) := by decide +kernel
theorem dX3_addNearest_25 : decode cX3_addNearest 25 = .ok (.iconst 0, 1) := by decide +kernel
theorem dX3_addNearest_26 : decode cX3_addNearest 26 = .ok (.istore 8, 2) := by decide +kernel
theorem dX3_addNearest_28 : decode cX3_addNearest 28 = .ok (.iload 8, 2) := by decide +kernel
theorem dX3_addNearest_30 : decode cX3_addNearest 30 = .ok (.iload_n 1, 1) := by decide +kernel
theorem dX3_addNearest_31 : decode cX3_addNearest 31 = .ok (.if_icmp .ge 84, 3) := by decide +kernel
theorem dX3_addNearest_34 : decode cX3_addNearest 34 = .ok (.iconst 0, 1) := by decide +kernel
theorem dX3_addNearest_35 : decode cX3_addNearest 35 = .ok (.istore 9, 2) := by decide +kernel
theorem dX3_addNearest_37 : decode cX3_addNearest 37 = .ok (.iload 9, 2) := by decide +kernel
theorem dX3_addNearest_39 : decode cX3_addNearest 39 = .ok (.aload_n 2, 1) := by decide +kernel
theorem dX3_addNearest_40 : decode cX3_addNearest 40 = .ok (.getfield 39, 3) := by decide +kernel
theorem dX3_addNearest_43 : decode cX3_addNearest 43 = .ok (.if_icmp .ge 66, 3) := by decide +kernel
theorem dX3_addNearest_46 : decode cX3_addNearest 46 = .ok (.aload_n 0, 1) := by decide +kernel
theorem dX3_addNearest_47 : decode cX3_addNearest 47 = .ok (.getfield 32, 3) := by decide +kernel
theorem dX3_addNearest_50 : decode cX3_addNearest 50 = .ok (.iload 8, 2) := by decide +kernel
theorem dX3_addNearest_52 : decode cX3_addNearest 52 = .ok (.baload, 1) := by decide +kernel
theorem dX3_addNearest_53 : decode cX3_addNearest 53 = .ok (.ifCond .ne 50, 3) := by decide +kernel
theorem dX3_addNearest_56 : decode cX3_addNearest 56 = .ok (.aload_n 0, 1) := by decide +kernel
theorem dX3_addNearest_57 : decode cX3_addNearest 57 = .ok (.getfield 36, 3) := by decide +kernel
theorem dX3_addNearest_60 : decode cX3_addNearest 60 = .ok (.iload 9, 2) := by decide +kernel
theorem dX3_addNearest_62 : decode cX3_addNearest 62 = .ok (.baload, 1) := by decide +kernel
theorem dX3_addNearest_63 : decode cX3_addNearest 63 = .ok (.ifCond .eq 6, 3) := by decide +kernel
theorem dX3_addNearest_66 : decode cX3_addNearest 66 = .ok (.goto 37, 3) := by decide +kernel
theorem dX3_addNearest_69 : decode cX3_addNearest 69 = .ok (.aload_n 0, 1) := by decide +kernel
theorem dX3_addNearest_70 : decode cX3_addNearest 70 = .ok (.iload 8, 2) := by decide +kernel
theorem dX3_addNearest_72 : decode cX3_addNearest 72 = .ok (.aload_n 2, 1) := by decide +kernel
theorem dX3_addNearest_73 : decode cX3_addNearest 73 = .ok (.iload 9, 2) := by decide +kernel
theorem dX3_addNearest_75 : decode cX3_addNearest 75 = .ok (.invokevirtual 59, 3) := by decide +kernel
theorem dX3_addNearest_78 : decode cX3_addNearest 78 = .ok (.lstore 10, 2) := by decide +kernel
theorem dX3_addNearest_80 : decode cX3_addNearest 80 = .ok (.lload 10, 2) := by decide +kernel
theorem dX3_addNearest_82 : decode cX3_addNearest 82 = .ok (.lload 4, 2) := by decide +kernel
theorem dX3_addNearest_84 : decode cX3_addNearest 84 = .ok (.lcmp, 1) := by decide +kernel
theorem dX3_addNearest_85 : decode cX3_addNearest 85 = .ok (.ifCond .lt 6, 3) := by decide +kernel
theorem dX3_addNearest_88 : decode cX3_addNearest 88 = .ok (.goto 15, 3) := by decide +kernel
theorem dX3_addNearest_91 : decode cX3_addNearest 91 = .ok (.lload 10, 2) := by decide +kernel
theorem dX3_addNearest_93 : decode cX3_addNearest 93 = .ok (.lstore 4, 2) := by decide +kernel
theorem dX3_addNearest_95 : decode cX3_addNearest 95 = .ok (.iload 8, 2) := by decide +kernel
theorem dX3_addNearest_97 : decode cX3_addNearest 97 = .ok (.istore 6, 2) := by decide +kernel
theorem dX3_addNearest_99 : decode cX3_addNearest 99 = .ok (.iload 9, 2) := by decide +kernel
theorem dX3_addNearest_101 : decode cX3_addNearest 101 = .ok (.istore 7, 2) := by decide +kernel
theorem dX3_addNearest_103 : decode cX3_addNearest 103 = .ok (.iinc 9 1, 3) := by decide +kernel
theorem dX3_addNearest_106 : decode cX3_addNearest 106 = .ok (.goto (-69), 3) := by decide +kernel
theorem dX3_addNearest_109 : decode cX3_addNearest 109 = .ok (.iinc 8 1, 3) := by decide +kernel
theorem dX3_addNearest_112 : decode cX3_addNearest 112 = .ok (.goto (-84), 3) := by decide +kernel
theorem dX3_addNearest_115 : decode cX3_addNearest 115 = .ok (.iload 6, 2) := by decide +kernel
theorem dX3_addNearest_117 : decode cX3_addNearest 117 = .ok (.bipush (-9), 2) := by decide +kernel
theorem dX3_addNearest_119 : decode cX3_addNearest 119 = .ok (.if_icmp .ne 5, 3) := by decide +kernel
theorem dX3_addNearest_122 : decode cX3_addNearest 122 = .ok (.iconst 0, 1) := by decide +kernel
theorem dX3_addNearest_123 : decode cX3_addNearest 123 = .ok (.ireturn, 1) := by decide +kernel
theorem dX3_addNearest_124 : decode cX3_addNearest 124 = .ok (.aload_n 0, 1) := by decide +kernel
theorem dX3_addNearest_125 : decode cX3_addNearest 125 = .ok (.iload 6, 2) := by decide +kernel
theorem dX3_addNearest_127 : decode cX3_addNearest 127 = .ok (.iload 7, 2) := by decide +kernel
theorem dX3_addNearest_129 : decode cX3_addNearest 129 = .ok (.lload 4, 2) := by decide +kernel
theorem dX3_addNearest_131 : decode cX3_addNearest 131 = .ok (.l2i, 1) := by decide +kernel
theorem dX3_addNearest_132 : decode cX3_addNearest 132 = .ok (.invokevirtual 63, 3) := by decide +kernel
theorem dX3_addNearest_135 : decode cX3_addNearest 135 = .ok (.iconst 1, 1) := by decide +kernel
theorem dX3_addNearest_136 : decode cX3_addNearest 136 = .ok (.ireturn, 1) := by decide +kernel
theorem dX3_squareTo_0 : decode cX3_squareTo 0 = .ok (.aload_n 0, 1) := by decide +kernel
theorem dX3_squareTo_1 : decode cX3_squareTo 1 = .ok (.getfield 25, 3) := by decide +kernel
theorem dX3_squareTo_4 : decode cX3_squareTo 4 = .ok (.iload_n 1, 1) := by decide +kernel
theorem dX3_squareTo_5 : decode cX3_squareTo 5 = .ok (.laload, 1) := by decide +kernel
theorem dX3_squareTo_6 : decode cX3_squareTo 6 = .ok (.aload_n 2, 1) := by decide +kernel
theorem dX3_squareTo_7 : decode cX3_squareTo 7 = .ok (.getfield 42, 3) := by decide +kernel
theorem dX3_squareTo_10 : decode cX3_squareTo 10 = .ok (.iload_n 3, 1) := by decide +kernel
theorem dX3_squareTo_11 : decode cX3_squareTo 11 = .ok (.iaload, 1) := by decide +kernel
theorem dX3_squareTo_12 : decode cX3_squareTo 12 = .ok (.i2l, 1) := by decide +kernel
theorem dX3_squareTo_13 : decode cX3_squareTo 13 = .ok (.lsub, 1) := by decide +kernel
theorem dX3_squareTo_14 : decode cX3_squareTo 14 = .ok (.lstore 4, 2) := by decide +kernel
theorem dX3_squareTo_16 : decode cX3_squareTo 16 = .ok (.aload_n 0, 1) := by decide +kernel
theorem dX3_squareTo_17 : decode cX3_squareTo 17 = .ok (.getfield 29, 3) := by decide +kernel
theorem dX3_squareTo_20 : decode cX3_squareTo 20 = .ok (.iload_n 1, 1) := by decide +kernel
theorem dX3_squareTo_21 : decode cX3_squareTo 21 = .ok (.laload, 1) := by decide +kernel
theorem dX3_squareTo_22 : decode cX3_squareTo 22 = .ok (.aload_n 2, 1) := by decide +kernel
theorem dX3_squareTo_23 : decode cX3_squareTo 23 = .ok (.getfield 45, 3) := by decide +kernel
theorem dX3_squareTo_26 : decode cX3_squareTo 26 = .ok (.iload_n 3, 1) := by decide +kernel
theorem dX3_squareTo_27 : decode cX3_squareTo 27 = .ok (.iaload, 1) := by decide +kernel
theorem dX3_squareTo_28 : decode cX3_squareTo 28 = .ok (.i2l, 1) := by decide +kernel
theorem dX3_squareTo_29 : decode cX3_squareTo 29 = .ok (.lsub, 1) := by decide +kernel
theorem dX3_squareTo_30 : decode cX3_squareTo 30 = .ok (.lstore 6, 2) := by decide +kernel
theorem dX3_squareTo_32 : decode cX3_squareTo 32 = .ok (.lload 4, 2) := by decide +kernel
theorem dX3_squareTo_34 : decode cX3_squareTo 34 = .ok (.lload 4, 2) := by decide +kernel
theorem dX3_squareTo_36 : decode cX3_squareTo 36 = .ok (.lmul, 1) := by decide +kernel
theorem dX3_squareTo_37 : decode cX3_squareTo 37 = .ok (.lload 6, 2) := by decide +kernel
theorem dX3_squareTo_39 : decode cX3_squareTo 39 = .ok (.lload 6, 2) := by decide +kernel
theorem dX3_squareTo_41 : decode cX3_squareTo 41 = .ok (.lmul, 1) := by decide +kernel
theorem dX3_squareTo_42 : decode cX3_squareTo 42 = .ok (.ladd, 1) := by decide +kernel
theorem dX3_squareTo_43 : decode cX3_squareTo 43 = .ok (.lreturn, 1) := by decide +kernel
theorem dX3_append_0 : decode cX3_append 0 = .ok (.aload_n 0, 1) := by decide +kernel
theorem dX3_append_1 : decode cX3_append 1 = .ok (.getfield 9, 3) := by decide +kernel
theorem dX3_append_4 : decode cX3_append 4 = .ok (.aload_n 0, 1) := by decide +kernel
theorem dX3_append_5 : decode cX3_append 5 = .ok (.getfield 21, 3) := by decide +kernel
theorem dX3_append_8 : decode cX3_append 8 = .ok (.iload_n 1, 1) := by decide +kernel
theorem dX3_append_9 : decode cX3_append 9 = .ok (.iastore, 1) := by decide +kernel
theorem dX3_append_10 : decode cX3_append 10 = .ok (.aload_n 0, 1) := by decide +kernel
theorem dX3_append_11 : decode cX3_append 11 = .ok (.getfield 15, 3) := by decide +kernel
theorem dX3_append_14 : decode cX3_append 14 = .ok (.aload_n 0, 1) := by decide +kernel
theorem dX3_append_15 : decode cX3_append 15 = .ok (.getfield 21, 3) := by decide +kernel
theorem dX3_append_18 : decode cX3_append 18 = .ok (.iload_n 2, 1) := by decide +kernel
theorem dX3_append_19 : decode cX3_append 19 = .ok (.iastore, 1) := by decide +kernel
theorem dX3_append_20 : decode cX3_append 20 = .ok (.aload_n 0, 1) := by decide +kernel
theorem dX3_append_21 : decode cX3_append 21 = .ok (.getfield 18, 3) := by decide +kernel
theorem dX3_append_24 : decode cX3_append 24 = .ok (.aload_n 0, 1) := by decide +kernel
theorem dX3_append_25 : decode cX3_append 25 = .ok (.getfield 21, 3) := by decide +kernel
theorem dX3_append_28 : decode cX3_append 28 = .ok (.iload_n 3, 1) := by decide +kernel
theorem dX3_append_29 : decode cX3_append 29 = .ok (.iastore, 1) := by decide +kernel
theorem dX3_append_30 : decode cX3_append 30 = .ok (.aload_n 0, 1) := by decide +kernel
theorem dX3_append_31 : decode cX3_append 31 = .ok (.dup, 1) := by decide +kernel
theorem dX3_append_32 : decode cX3_append 32 = .ok (.getfield 21, 3) := by decide +kernel
theorem dX3_append_35 : decode cX3_append 35 = .ok (.iconst 1, 1) := by decide +kernel
theorem dX3_append_36 : decode cX3_append 36 = .ok (.iadd, 1) := by decide +kernel
theorem dX3_append_37 : decode cX3_append 37 = .ok (.putfield 21, 3) := by decide +kernel
theorem dX3_append_40 : decode cX3_append 40 = .ok (.aload_n 0, 1) := by decide +kernel
theorem dX3_append_41 : decode cX3_append 41 = .ok (.getfield 32, 3) := by decide +kernel
theorem dX3_append_44 : decode cX3_append 44 = .ok (.iload_n 1, 1) := by decide +kernel
theorem dX3_append_45 : decode cX3_append 45 = .ok (.iconst 1, 1) := by decide +kernel
theorem dX3_append_46 : decode cX3_append 46 = .ok (.bastore, 1) := by decide +kernel
theorem dX3_append_47 : decode cX3_append 47 = .ok (.aload_n 0, 1) := by decide +kernel
theorem dX3_append_48 : decode cX3_append 48 = .ok (.getfield 36, 3) := by decide +kernel
theorem dX3_append_51 : decode cX3_append 51 = .ok (.iload_n 2, 1) := by decide +kernel
theorem dX3_append_52 : decode cX3_append 52 = .ok (.iconst 1, 1) := by decide +kernel
theorem dX3_append_53 : decode cX3_append 53 = .ok (.bastore, 1) := by decide +kernel
theorem dX3_append_54 : decode cX3_append 54 = .ok (.return_, 1) := by decide +kernel
theorem dX4_init_0 : decode cX4_init 0 = .ok (.aload_n 0, 1) := by decide +kernel
theorem dX4_init_1 : decode cX4_init 1 = .ok (.invokespecial 3, 3) := by decide +kernel
theorem dX4_init_4 : decode cX4_init 4 = .ok (.aload_n 0, 1) := by decide +kernel
theorem dX4_init_5 : decode cX4_init 5 = .ok (.bipush 8, 2) := by decide +kernel
theorem dX4_init_7 : decode cX4_init 7 = .ok (.newarray .int, 2) := by decide +kernel
theorem dX4_init_9 : decode cX4_init 9 = .ok (.putfield 9, 3) := by decide +kernel
theorem dX4_init_12 : decode cX4_init 12 = .ok (.aload_n 0, 1) := by decide +kernel
theorem dX4_init_13 : decode cX4_init 13 = .ok (.bipush 8, 2) := by decide +kernel
theorem dX4_init_15 : decode cX4_init 15 = .ok (.newarray .boolean, 2) := by decide +kernel
theorem dX4_init_17 : decode cX4_init 17 = .ok (.putfield 15, 3) := by decide +kernel
theorem dX4_init_20 : decode cX4_init 20 = .ok (.aload_n 0, 1) := by decide +kernel
theorem dX4_init_21 : decode cX4_init 21 = .ok (.iconst 0, 1) := by decide +kernel
theorem dX4_init_22 : decode cX4_init 22 = .ok (.putfield 19, 3) := by decide +kernel
theorem dX4_init_25 : decode cX4_init 25 = .ok (.return_, 1) := by decide +kernel
theorem dX4_holds_0 : decode cX4_holds 0 = .ok (.aload_n 0, 1) := by decide +kernel
theorem dX4_holds_1 : decode cX4_holds 1 = .ok (.getfield 9, 3) := by decide +kernel
theorem dX4_holds_4 : decode cX4_holds 4 = .ok (.iload_n 1, 1) := by decide +kernel
theorem dX4_holds_5 : decode cX4_holds 5 = .ok (.iaload, 1) := by decide +kernel
theorem dX4_holds_6 : decode cX4_holds 6 = .ok (.bipush (-9), 2) := by decide +kernel
theorem dX4_holds_8 : decode cX4_holds 8 = .ok (.if_icmp .eq 7, 3) := by decide +kernel
theorem dX4_holds_11 : decode cX4_holds 11 = .ok (.iconst 1, 1) := by decide +kernel
theorem dX4_holds_12 : decode cX4_holds 12 = .ok (.goto 4, 3) := by decide +kernel
theorem dX4_holds_15 : decode cX4_holds 15 = .ok (.iconst 0, 1) := by decide +kernel
theorem dX4_holds_16 : decode cX4_holds 16 = .ok (.ireturn, 1) := by decide +kernel
theorem dX4_fill_0 : decode cX4_fill 0 = .ok (.iconst 0, 1) := by decide +kernel
theorem dX4_fill_1 : decode cX4_fill 1 = .ok (.istore 4, 2) := by decide +kernel
theorem dX4_fill_3 : decode cX4_fill 3 = .ok (.iload 4, 2) := by decide +kernel
theorem dX4_fill_5 : decode cX4_fill 5 = .ok (.bipush 8, 2) := by decide +kernel
theorem dX4_fill_7 : decode cX4_fill 7 = .ok (.if_icmp .ge 26, 3) := by decide +kernel
theorem dX4_fill_10 : decode cX4_fill 10 = .ok (.aload_n 0, 1) := by decide +kernel
theorem dX4_fill_11 : decode cX4_fill 11 = .ok (.getfield 9, 3) := by decide +kernel
theorem dX4_fill_14 : decode cX4_fill 14 = .ok (.iload 4, 2) := by decide +kernel
theorem dX4_fill_16 : decode cX4_fill 16 = .ok (.bipush (-9), 2) := by decide +kernel
theorem dX4_fill_18 : decode cX4_fill 18 = .ok (.iastore, 1) := by decide +kernel
theorem dX4_fill_19 : decode cX4_fill 19 = .ok (.aload_n 0, 1) := by decide +kernel
theorem dX4_fill_20 : decode cX4_fill 20 = .ok (.getfield 15, 3) := by decide +kernel
theorem dX4_fill_23 : decode cX4_fill 23 = .ok (.iload 4, 2) := by decide +kernel
theorem dX4_fill_25 : decode cX4_fill 25 = .ok (.iconst 0, 1) := by decide +kernel
theorem dX4_fill_26 : decode cX4_fill 26 = .ok (.bastore, 1) := by decide +kernel
theorem dX4_fill_27 : decode cX4_fill 27 = .ok (.iinc 4 1, 3) := by decide +kernel
theorem dX4_fill_30 : decode cX4_fill 30 = .ok (.goto (-27), 3) := by decide +kernel
theorem dX4_fill_33 : decode cX4_fill 33 = .ok (.aload_n 0, 1) := by decide +kernel
theorem dX4_fill_34 : decode cX4_fill 34 = .ok (.iconst 0, 1) := by decide +kernel
theorem dX4_fill_35 : decode cX4_fill 35 = .ok (.putfield 19, 3) := by decide +kernel
theorem dX4_fill_38 : decode cX4_fill 38 = .ok (.iconst 0, 1) := by decide +kernel
theorem dX4_fill_39 : decode cX4_fill 39 = .ok (.istore 4, 2) := by decide +kernel
theorem dX4_fill_41 : decode cX4_fill 41 = .ok (.iload 4, 2) := by decide +kernel
theorem dX4_fill_43 : decode cX4_fill 43 = .ok (.bipush 8, 2) := by decide +kernel
theorem dX4_fill_45 : decode cX4_fill 45 = .ok (.if_icmp .ge 22, 3) := by decide +kernel
theorem dX4_fill_48 : decode cX4_fill 48 = .ok (.aload_n 0, 1) := by decide +kernel
theorem dX4_fill_49 : decode cX4_fill 49 = .ok (.aload_n 1, 1) := by decide +kernel
theorem dX4_fill_50 : decode cX4_fill 50 = .ok (.iload_n 2, 1) := by decide +kernel
theorem dX4_fill_51 : decode cX4_fill 51 = .ok (.iload_n 3, 1) := by decide +kernel
theorem dX4_fill_52 : decode cX4_fill 52 = .ok (.invokevirtual 23, 3) := by decide +kernel
theorem dX4_fill_55 : decode cX4_fill 55 = .ok (.ifCond .ne 6, 3) := by decide +kernel
theorem dX4_fill_58 : decode cX4_fill 58 = .ok (.goto 9, 3) := by decide +kernel
theorem dX4_fill_61 : decode cX4_fill 61 = .ok (.iinc 4 1, 3) := by decide +kernel
theorem dX4_fill_64 : decode cX4_fill 64 = .ok (.goto (-23), 3) := by decide +kernel
theorem dX4_fill_67 : decode cX4_fill 67 = .ok (.return_, 1) := by decide +kernel
theorem dX4_drop_0 : decode cX4_drop 0 = .ok (.aload_n 0, 1) := by decide +kernel
theorem dX4_drop_1 : decode cX4_drop 1 = .ok (.iload_n 1, 1) := by decide +kernel
theorem dX4_drop_2 : decode cX4_drop 2 = .ok (.invokevirtual 27, 3) := by decide +kernel
theorem dX4_drop_5 : decode cX4_drop 5 = .ok (.ifCond .ne 4, 3) := by decide +kernel
theorem dX4_drop_8 : decode cX4_drop 8 = .ok (.return_, 1) := by decide +kernel
theorem dX4_drop_9 : decode cX4_drop 9 = .ok (.aload_n 0, 1) := by decide +kernel
theorem dX4_drop_10 : decode cX4_drop 10 = .ok (.getfield 15, 3) := by decide +kernel
theorem dX4_drop_13 : decode cX4_drop 13 = .ok (.aload_n 0, 1) := by decide +kernel
theorem dX4_drop_14 : decode cX4_drop 14 = .ok (.getfield 9, 3) := by decide +kernel
theorem dX4_drop_17 : decode cX4_drop 17 = .ok (.iload_n 1, 1) := by decide +kernel
theorem dX4_drop_18 : decode cX4_drop 18 = .ok (.iaload, 1) := by decide +kernel
theorem dX4_drop_19 : decode cX4_drop 19 = .ok (.iconst 0, 1) := by decide +kernel
theorem dX4_drop_20 : decode cX4_drop 20 = .ok (.bastore, 1) := by decide +kernel
theorem dX4_drop_21 : decode cX4_drop 21 = .ok (.aload_n 0, 1) := by decide +kernel
theorem dX4_drop_22 : decode cX4_drop 22 = .ok (.getfield 9, 3) := by decide +kernel
theorem dX4_drop_25 : decode cX4_drop 25 = .ok (.iload_n 1, 1) := by decide +kernel
theorem dX4_drop_26 : decode cX4_drop 26 = .ok (.bipush (-9), 2) := by decide +kernel
theorem dX4_drop_28 : decode cX4_drop 28 = .ok (.iastore, 1) := by decide +kernel
theorem dX4_drop_29 : decode cX4_drop 29 = .ok (.aload_n 0, 1) := by decide +kernel
theorem dX4_drop_30 : decode cX4_drop 30 = .ok (.dup, 1) := by decide +kernel
theorem dX4_drop_31 : decode cX4_drop 31 = .ok (.getfield 19, 3) := by decide +kernel
theorem dX4_drop_34 : decode cX4_drop 34 = .ok (.iconst 1, 1) := by decide +kernel
theorem dX4_drop_35 : decode cX4_drop 35 = .ok (.isub, 1) := by decide +kernel
theorem dX4_drop_36 : decode cX4_drop 36 = .ok (.putfield 19, 3) := by decide +kernel
theorem dX4_drop_39 : decode cX4_drop 39 = .ok (.return_, 1) := by decide +kernel
theorem dX4_addBest_0 : decode cX4_addBest 0 = .ok (.iconst 0, 1) := by decide +kernel
theorem dX4_addBest_1 : decode cX4_addBest 1 = .ok (.istore 4, 2) := by decide +kernel
theorem dX4_addBest_3 : decode cX4_addBest 3 = .ok (.bipush (-9), 2) := by decide +kernel
theorem dX4_addBest_5 : decode cX4_addBest 5 = .ok (.istore 5, 2) := by decide +kernel
theorem dX4_addBest_7 : decode cX4_addBest 7 = .ok (.bipush (-9), 2) := by decide +kernel
theorem dX4_addBest_9 : decode cX4_addBest 9 = .ok (.istore 6, 2) := by decide +kernel
theorem dX4_addBest_11 : decode cX4_addBest 11 = .ok (.iconst 0, 1) := by decide +kernel
theorem dX4_addBest_12 : decode cX4_addBest 12 = .ok (.istore 7, 2) := by decide +kernel
theorem dX4_addBest_14 : decode cX4_addBest 14 = .ok (.iload 7, 2) := by decide +kernel
theorem dX4_addBest_16 : decode cX4_addBest 16 = .ok (.iload_n 2, 1) := by decide +kernel
theorem dX4_addBest_17 : decode cX4_addBest 17 = .ok (.if_icmp .ge 77, 3) := by decide +kernel
theorem dX4_addBest_20 : decode cX4_addBest 20 = .ok (.iconst 0, 1) := by decide +kernel
theorem dX4_addBest_21 : decode cX4_addBest 21 = .ok (.istore 8, 2) := by decide +kernel
theorem dX4_addBest_23 : decode cX4_addBest 23 = .ok (.iload 8, 2) := by decide +kernel
theorem dX4_addBest_25 : decode cX4_addBest 25 = .ok (.iload_n 3, 1) := by decide +kernel
theorem dX4_addBest_26 : decode cX4_addBest 26 = .ok (.if_icmp .ge 62, 3) := by decide +kernel
theorem dX4_addBest_29 : decode cX4_addBest 29 = .ok (.aload_n 0, 1) := by decide +kernel
theorem dX4_addBest_30 : decode cX4_addBest 30 = .ok (.iload 7, 2) := by decide +kernel
theorem dX4_addBest_32 : decode cX4_addBest 32 = .ok (.invokevirtual 27, 3) := by decide +kernel
theorem dX4_addBest_35 : decode cX4_addBest 35 = .ok (.ifCond .ne 47, 3) := by decide +kernel
theorem dX4_addBest_38 : decode cX4_addBest 38 = .ok (.aload_n 0, 1) := by decide +kernel
theorem dX4_addBest_39 : decode cX4_addBest 39 = .ok (.getfield 15, 3) := by decide +kernel
theorem dX4_addBest_42 : decode cX4_addBest 42 = .ok (.iload 8, 2) := by decide +kernel
theorem dX4_addBest_44 : decode cX4_addBest 44 = .ok (.baload, 1) := by decide +kernel
theorem dX4_addBest_45 : decode cX4_addBest 45 = .ok (.ifCond .ne 37, 3) := by decide +kernel
theorem dX4_addBest_48 : decode cX4_addBest 48 = .ok (.aload_n 1, 1) := by decide +kernel
theorem dX4_addBest_49 : decode cX4_addBest 49 = .ok (.iload 7, 2) := by decide +kernel
theorem dX4_addBest_51 : decode cX4_addBest 51 = .ok (.iload 8, 2) := by decide +kernel
theorem dX4_addBest_53 : decode cX4_addBest 53 = .ok (.invokevirtual 31, 3) := by decide +kernel
theorem dX4_addBest_56 : decode cX4_addBest 56 = .ok (.iload 4, 2) := by decide +kernel
theorem dX4_addBest_58 : decode cX4_addBest 58 = .ok (.if_icmp .gt 6, 3) := by decide +kernel
theorem dX4_addBest_61 : decode cX4_addBest 61 = .ok (.goto 21, 3) := by decide +kernel
theorem dX4_addBest_64 : decode cX4_addBest 64 = .ok (.aload_n 1, 1) := by decide +kernel
theorem dX4_addBest_65 : decode cX4_addBest 65 = .ok (.iload 7, 2) := by decide +kernel
theorem dX4_addBest_67 : decode cX4_addBest 67 = .ok (.iload 8, 2) := by decide +kernel
theorem dX4_addBest_69 : decode cX4_addBest 69 = .ok (.invokevirtual 31, 3) := by decide +kernel
theorem dX4_addBest_72 : decode cX4_addBest 72 = .ok (.istore 4, 2) := by decide +kernel
theorem dX4_addBest_74 : decode cX4_addBest 74 = .ok (.iload 7, 2) := by decide +kernel
theorem dX4_addBest_76 : decode cX4_addBest 76 = .ok (.istore 5, 2) := by decide +kernel
theorem dX4_addBest_78 : decode cX4_addBest 78 = .ok (.iload 8, 2) := by decide +kernel
theorem dX4_addBest_80 : decode cX4_addBest 80 = .ok (.istore 6, 2) := by decide +kernel
theorem dX4_addBest_82 : decode cX4_addBest 82 = .ok (.iinc 8 1, 3) := by decide +kernel
theorem dX4_addBest_85 : decode cX4_addBest 85 = .ok (.goto (-62), 3) := by decide +kernel
theorem dX4_addBest_88 : decode cX4_addBest 88 = .ok (.iinc 7 1, 3) := by decide +kernel
theorem dX4_addBest_91 : decode cX4_addBest 91 = .ok (.goto (-77), 3) := by decide +kernel
theorem dX4_addBest_94 : decode cX4_addBest 94 = .ok (.iload 4, 2) := by decide +kernel
theorem dX4_addBest_96 : decode cX4_addBest 96 = .ok (.ifCond .ne 5, 3) := by decide +kernel
theorem dX4_addBest_99 : decode cX4_addBest 99 = .ok (.iconst 0, 1) := by decide +kernel
theorem dX4_addBest_100 : decode cX4_addBest 100 = .ok (.ireturn, 1) := by decide +kernel
theorem dX4_addBest_101 : decode cX4_addBest 101 = .ok (.aload_n 0, 1) := by decide +kernel
theorem dX4_addBest_102 : decode cX4_addBest 102 = .ok (.getfield 9, 3) := by decide +kernel
theorem dX4_addBest_105 : decode cX4_addBest 105 = .ok (.iload 5, 2) := by decide +kernel
theorem dX4_addBest_107 : decode cX4_addBest 107 = .ok (.iload 6, 2) := by decide +kernel
theorem dX4_addBest_109 : decode cX4_addBest 109 = .ok (.iastore, 1) := by decide +kernel
theorem dX4_addBest_110 : decode cX4_addBest 110 = .ok (.aload_n 0, 1) := by decide +kernel
theorem dX4_addBest_111 : decode cX4_addBest 111 = .ok (.getfield 15, 3) := by decide +kernel
theorem dX4_addBest_114 : decode cX4_addBest 114 = .ok (.iload 6, 2) := by decide +kernel
theorem dX4_addBest_116 : decode cX4_addBest 116 = .ok (.iconst 1, 1) := by decide +kernel
theorem dX4_addBest_117 : decode cX4_addBest 117 = .ok (.bastore, 1) := by decide +kernel
theorem dX4_addBest_118 : decode cX4_addBest 118 = .ok (.aload_n 0, 1) := by decide +kernel
theorem dX4_addBest_119 : decode cX4_addBest 119 = .ok (.dup, 1) := by decide +kernel
theorem dX4_addBest_120 : decode cX4_addBest 120 = .ok (.getfield 19, 3) := by decide +kernel
theorem dX4_addBest_123 : decode cX4_addBest 123 = .ok (.iconst 1, 1) := by decide +kernel
theorem dX4_addBest_124 : decode cX4_addBest 124 = .ok (.iadd, 1) := by decide +kernel
theorem dX4_addBest_125 : decode cX4_addBest 125 = .ok (.putfield 19, 3) := by decide +kernel
theorem dX4_addBest_128 : decode cX4_addBest 128 = .ok (.iconst 1, 1) := by decide +kernel
theorem dX4_addBest_129 : decode cX4_addBest 129 = .ok (.ireturn, 1) := by decide +kernel
theorem dX5_init_0 : decode cX5_init 0 = .ok (.aload_n 0, 1) := by decide +kernel
theorem dX5_init_1 : decode cX5_init 1 = .ok (.invokespecial 1, 3) := by decide +kernel
theorem dX5_init_4 : decode cX5_init 4 = .ok (.aload_n 0, 1) := by decide +kernel
theorem dX5_init_5 : decode cX5_init 5 = .ok (.iconst 3, 1) := by decide +kernel
theorem dX5_init_6 : decode cX5_init 6 = .ok (.newarray .int, 2) := by decide +kernel
theorem dX5_init_8 : decode cX5_init 8 = .ok (.putfield 7, 3) := by decide +kernel
theorem dX5_init_11 : decode cX5_init 11 = .ok (.aload_n 0, 1) := by decide +kernel
theorem dX5_init_12 : decode cX5_init 12 = .ok (.iconst 3, 1) := by decide +kernel
theorem dX5_init_13 : decode cX5_init 13 = .ok (.newarray .long, 2) := by decide +kernel
theorem dX5_init_15 : decode cX5_init 15 = .ok (.putfield 13, 3) := by decide +kernel
theorem dX5_init_18 : decode cX5_init 18 = .ok (.return_, 1) := by decide +kernel
theorem dX5_measure_0 : decode cX5_measure 0 = .ok (.aload_n 0, 1) := by decide +kernel
theorem dX5_measure_1 : decode cX5_measure 1 = .ok (.iconst 0, 1) := by decide +kernel
theorem dX5_measure_2 : decode cX5_measure 2 = .ok (.iload_n 2, 1) := by decide +kernel
theorem dX5_measure_3 : decode cX5_measure 3 = .ok (.aload_n 1, 1) := by decide +kernel
theorem dX5_measure_4 : decode cX5_measure 4 = .ok (.iload_n 3, 1) := by decide +kernel
theorem dX5_measure_5 : decode cX5_measure 5 = .ok (.iload 4, 2) := by decide +kernel
theorem dX5_measure_7 : decode cX5_measure 7 = .ok (.invokestatic 17, 3) := by decide +kernel
theorem dX5_measure_10 : decode cX5_measure 10 = .ok (.invokevirtual 21, 3) := by decide +kernel
theorem dX5_measure_13 : decode cX5_measure 13 = .ok (.aload_n 0, 1) := by decide +kernel
theorem dX5_measure_14 : decode cX5_measure 14 = .ok (.iconst 1, 1) := by decide +kernel
theorem dX5_measure_15 : decode cX5_measure 15 = .ok (.iload_n 3, 1) := by decide +kernel
theorem dX5_measure_16 : decode cX5_measure 16 = .ok (.aload_n 1, 1) := by decide +kernel
theorem dX5_measure_17 : decode cX5_measure 17 = .ok (.iload_n 2, 1) := by decide +kernel
theorem dX5_measure_18 : decode cX5_measure 18 = .ok (.iload 4, 2) := by decide +kernel
theorem dX5_measure_20 : decode cX5_measure 20 = .ok (.invokestatic 17, 3) := by decide +kernel
theorem dX5_measure_23 : decode cX5_measure 23 = .ok (.invokevirtual 21, 3) := by decide +kernel
theorem dX5_measure_26 : decode cX5_measure 26 = .ok (.aload_n 0, 1) := by decide +kernel
theorem dX5_measure_27 : decode cX5_measure 27 = .ok (.iconst 2, 1) := by decide +kernel
theorem dX5_measure_28 : decode cX5_measure 28 = .ok (.iload 4, 2) := by decide +kernel
theorem dX5_measure_30 : decode cX5_measure 30 = .ok (.aload_n 1, 1) := by decide +kernel
theorem dX5_measure_31 : decode cX5_measure 31 = .ok (.iload_n 2, 1) := by decide +kernel
theorem dX5_measure_32 : decode cX5_measure 32 = .ok (.iload_n 3, 1) := by decide +kernel
theorem dX5_measure_33 : decode cX5_measure 33 = .ok (.invokestatic 17, 3) := by decide +kernel
theorem dX5_measure_36 : decode cX5_measure 36 = .ok (.invokevirtual 21, 3) := by decide +kernel
theorem dX5_measure_39 : decode cX5_measure 39 = .ok (.aload_n 0, 1) := by decide +kernel
theorem dX5_measure_40 : decode cX5_measure 40 = .ok (.iconst 0, 1) := by decide +kernel
theorem dX5_measure_41 : decode cX5_measure 41 = .ok (.iconst 1, 1) := by decide +kernel
theorem dX5_measure_42 : decode cX5_measure 42 = .ok (.invokevirtual 25, 3) := by decide +kernel
theorem dX5_measure_45 : decode cX5_measure 45 = .ok (.aload_n 0, 1) := by decide +kernel
theorem dX5_measure_46 : decode cX5_measure 46 = .ok (.iconst 1, 1) := by decide +kernel
theorem dX5_measure_47 : decode cX5_measure 47 = .ok (.iconst 2, 1) := by decide +kernel
theorem dX5_measure_48 : decode cX5_measure 48 = .ok (.invokevirtual 25, 3) := by decide +kernel
theorem dX5_measure_51 : decode cX5_measure 51 = .ok (.aload_n 0, 1) := by decide +kernel
theorem dX5_measure_52 : decode cX5_measure 52 = .ok (.iconst 0, 1) := by decide +kernel
theorem dX5_measure_53 : decode cX5_measure 53 = .ok (.iconst 1, 1) := by decide +kernel
theorem dX5_measure_54 : decode cX5_measure 54 = .ok (.invokevirtual 25, 3) := by decide +kernel
theorem dX5_measure_57 : decode cX5_measure 57 = .ok (.aload_n 0, 1) := by decide +kernel
theorem dX5_measure_58 : decode cX5_measure 58 = .ok (.aload_n 1, 1) := by decide +kernel
theorem dX5_measure_59 : decode cX5_measure 59 = .ok (.invokevirtual 29, 3) := by decide +kernel
theorem dX5_measure_62 : decode cX5_measure 62 = .ok (.lstore 5, 2) := by decide +kernel
theorem dX5_measure_64 : decode cX5_measure 64 = .ok (.aload_n 0, 1) := by decide +kernel
theorem dX5_measure_65 : decode cX5_measure 65 = .ok (.lload 5, 2) := by decide +kernel
theorem dX5_measure_67 : decode cX5_measure 67 = .ok (.lconst 0, 1) := by decide +kernel
theorem dX5_measure_68 : decode cX5_measure 68 = .ok (.lcmp, 1) := by decide +kernel
theorem dX5_measure_69 : decode cX5_measure 69 = .ok (.ifCond .eq 46, 3) := by decide +kernel
theorem dX5_measure_72 : decode cX5_measure 72 = .ok (.aload_n 0, 1) := by decide +kernel
theorem dX5_measure_73 : decode cX5_measure 73 = .ok (.getfield 13, 3) := by decide +kernel
theorem dX5_measure_76 : decode cX5_measure 76 = .ok (.iconst 0, 1) := by decide +kernel
theorem dX5_measure_77 : decode cX5_measure 77 = .ok (.laload, 1) := by decide +kernel
theorem dX5_measure_78 : decode cX5_measure 78 = .ok (.aload_n 0, 1) := by decide +kernel
theorem dX5_measure_79 : decode cX5_measure 79 = .ok (.getfield 13, 3) := by decide +kernel
theorem dX5_measure_82 : decode cX5_measure 82 = .ok (.iconst 1, 1) := by decide +kernel
theorem dX5_measure_83 : decode cX5_measure 83 = .ok (.laload, 1) := by decide +kernel
theorem dX5_measure_84 : decode cX5_measure 84 = .ok (.lcmp, 1) := by decide +kernel
theorem dX5_measure_85 : decode cX5_measure 85 = .ok (.ifCond .eq 30, 3) := by decide +kernel
theorem dX5_measure_88 : decode cX5_measure 88 = .ok (.aload_n 0, 1) := by decide +kernel
theorem dX5_measure_89 : decode cX5_measure 89 = .ok (.getfield 13, 3) := by decide +kernel
theorem dX5_measure_92 : decode cX5_measure 92 = .ok (.iconst 1, 1) := by decide +kernel
theorem dX5_measure_93 : decode cX5_measure 93 = .ok (.laload, 1) := by decide +kernel
theorem dX5_measure_94 : decode cX5_measure 94 = .ok (.aload_n 0, 1) := by decide +kernel
theorem dX5_measure_95 : decode cX5_measure 95 = .ok (.getfield 13, 3) := by decide +kernel
theorem dX5_measure_98 : decode cX5_measure 98 = .ok (.iconst 2, 1) := by decide +kernel
theorem dX5_measure_99 : decode cX5_measure 99 = .ok (.laload, 1) := by decide +kernel
theorem dX5_measure_100 : decode cX5_measure 100 = .ok (.lcmp, 1) := by decide +kernel
theorem dX5_measure_101 : decode cX5_measure 101 = .ok (.ifCond .eq 14, 3) := by decide +kernel
theorem dX5_measure_104 : decode cX5_measure 104 = .ok (.aload_n 0, 1) := by decide +kernel
theorem dX5_measure_105 : decode cX5_measure 105 = .ok (.getfield 13, 3) := by decide +kernel
theorem dX5_measure_108 : decode cX5_measure 108 = .ok (.iconst 2, 1) := by decide +kernel
theorem dX5_measure_109 : decode cX5_measure 109 = .ok (.laload, 1) := by decide +kernel
theorem dX5_measure_110 : decode cX5_measure 110 = .ok (.lconst 0, 1) := by decide +kernel
theorem dX5_measure_111 : decode cX5_measure 111 = .ok (.lcmp, 1) := by decide +kernel
theorem dX5_measure_112 : decode cX5_measure 112 = .ok (.ifCond .gt 7, 3) := by decide +kernel
theorem dX5_measure_115 : decode cX5_measure 115 = .ok (.iconst 1, 1) := by decide +kernel
theorem dX5_measure_116 : decode cX5_measure 116 = .ok (.goto 4, 3) := by decide +kernel
theorem dX5_measure_119 : decode cX5_measure 119 = .ok (.iconst 0, 1) := by decide +kernel
theorem dX5_measure_120 : decode cX5_measure 120 = .ok (.putfield 33, 3) := by decide +kernel
theorem dX5_measure_123 : decode cX5_measure 123 = .ok (.aload_n 0, 1) := by decide +kernel
theorem dX5_measure_124 : decode cX5_measure 124 = .ok (.getfield 33, 3) := by decide +kernel
theorem dX5_measure_127 : decode cX5_measure 127 = .ok (.ifCond .eq 4, 3) := by decide +kernel
theorem dX5_measure_130 : decode cX5_measure 130 = .ok (.return_, 1) := by decide +kernel
theorem dX5_measure_131 : decode cX5_measure 131 = .ok (.aload_n 0, 1) := by decide +kernel
theorem dX5_measure_132 : decode cX5_measure 132 = .ok (.ldc2_w 37, 3) := by decide +kernel
theorem dX5_measure_135 : decode cX5_measure 135 = .ok (.aload_n 0, 1) := by decide +kernel
theorem dX5_measure_136 : decode cX5_measure 136 = .ok (.getfield 13, 3) := by decide +kernel
theorem dX5_measure_139 : decode cX5_measure 139 = .ok (.iconst 0, 1) := by decide +kernel
theorem dX5_measure_140 : decode cX5_measure 140 = .ok (.laload, 1) := by decide +kernel
theorem dX5_measure_141 : decode cX5_measure 141 = .ok (.lmul, 1) := by decide +kernel
theorem dX5_measure_142 : decode cX5_measure 142 = .ok (.aload_n 0, 1) := by decide +kernel
theorem dX5_measure_143 : decode cX5_measure 143 = .ok (.getfield 13, 3) := by decide +kernel
theorem dX5_measure_146 : decode cX5_measure 146 = .ok (.iconst 2, 1) := by decide +kernel
theorem dX5_measure_147 : decode cX5_measure 147 = .ok (.laload, 1) := by decide +kernel
theorem dX5_measure_148 : decode cX5_measure 148 = .ok (.ldiv, 1) := by decide +kernel
theorem dX5_measure_149 : decode cX5_measure 149 = .ok (.l2i, 1) := by decide +kernel
theorem dX5_measure_150 : decode cX5_measure 150 = .ok (.putfield 39, 3) := by decide +kernel
theorem dX5_measure_153 : decode cX5_measure 153 = .ok (.aload_n 0, 1) := by decide +kernel
theorem dX5_measure_154 : decode cX5_measure 154 = .ok (.ldc2_w 37, 3) := by decide +kernel
theorem dX5_measure_157 : decode cX5_measure 157 = .ok (.aload_n 0, 1) := by decide +kernel
theorem dX5_measure_158 : decode cX5_measure 158 = .ok (.getfield 13, 3) := by decide +kernel
theorem dX5_measure_161 : decode cX5_measure 161 = .ok (.iconst 1, 1) := by decide +kernel
theorem dX5_measure_162 : decode cX5_measure 162 = .ok (.laload, 1) := by decide +kernel
theorem dX5_measure_163 : decode cX5_measure 163 = .ok (.lmul, 1) := by decide +kernel
theorem dX5_measure_164 : decode cX5_measure 164 = .ok (.aload_n 0, 1) := by decide +kernel
theorem dX5_measure_165 : decode cX5_measure 165 = .ok (.getfield 13, 3) := by decide +kernel
theorem dX5_measure_168 : decode cX5_measure 168 = .ok (.iconst 2, 1) := by decide +kernel
theorem dX5_measure_169 : decode cX5_measure 169 = .ok (.laload, 1) := by decide +kernel
theorem dX5_measure_170 : decode cX5_measure 170 = .ok (.ldiv, 1) := by decide +kernel
theorem dX5_measure_171 : decode cX5_measure 171 = .ok (.l2i, 1) := by decide +kernel
theorem dX5_measure_172 : decode cX5_measure 172 = .ok (.putfield 43, 3) := by decide +kernel
theorem dX5_measure_175 : decode cX5_measure 175 = .ok (.aload_n 0, 1) := by decide +kernel
theorem dX5_measure_176 : decode cX5_measure 176 = .ok (.lload 5, 2) := by decide +kernel
theorem dX5_measure_178 : decode cX5_measure 178 = .ok (.lconst 0, 1) := by decide +kernel
theorem dX5_measure_179 : decode cX5_measure 179 = .ok (.lcmp, 1) := by decide +kernel
theorem dX5_measure_180 : decode cX5_measure 180 = .ok (.ifCond .le 7, 3) := by decide +kernel
theorem dX5_measure_183 : decode cX5_measure 183 = .ok (.iconst 1, 1) := by decide +kernel
theorem dX5_measure_184 : decode cX5_measure 184 = .ok (.goto 4, 3) := by decide +kernel
theorem dX5_measure_187 : decode cX5_measure 187 = .ok (.iconst (-1), 1) := by decide +kernel
theorem dX5_measure_188 : decode cX5_measure 188 = .ok (.putfield 46, 3) := by decide +kernel
theorem dX5_measure_191 : decode cX5_measure 191 = .ok (.return_, 1) := by decide +kernel
theorem dX5_put_0 : decode cX5_put 0 = .ok (.aload_n 0, 1) := by decide +kernel
theorem dX5_put_1 : decode cX5_put 1 = .ok (.getfield 7, 3) := by decide +kernel
theorem dX5_put_4 : decode cX5_put 4 = .ok (.iload_n 1, 1) := by decide +kernel
theorem dX5_put_5 : decode cX5_put 5 = .ok (.iload_n 2, 1) := by decide +kernel
theorem dX5_put_6 : decode cX5_put 6 = .ok (.iastore, 1) := by decide +kernel
theorem dX5_put_7 : decode cX5_put 7 = .ok (.aload_n 0, 1) := by decide +kernel
theorem dX5_put_8 : decode cX5_put 8 = .ok (.getfield 13, 3) := by decide +kernel
theorem dX5_put_11 : decode cX5_put 11 = .ok (.iload_n 1, 1) := by decide +kernel
theorem dX5_put_12 : decode cX5_put 12 = .ok (.lload_n 3, 1) := by decide +kernel
theorem dX5_put_13 : decode cX5_put 13 = .ok (.lastore, 1) := by decide +kernel
theorem dX5_put_14 : decode cX5_put 14 = .ok (.return_, 1) := by decide +kernel
theorem dX5_order_0 : decode cX5_order 0 = .ok (.aload_n 0, 1) := by decide +kernel
theorem dX5_order_1 : decode cX5_order 1 = .ok (.getfield 13, 3) := by decide +kernel
theorem dX5_order_4 : decode cX5_order 4 = .ok (.iload_n 1, 1) := by decide +kernel
theorem dX5_order_5 : decode cX5_order 5 = .ok (.laload, 1) := by decide +kernel
theorem dX5_order_6 : decode cX5_order 6 = .ok (.aload_n 0, 1) := by decide +kernel
theorem dX5_order_7 : decode cX5_order 7 = .ok (.getfield 13, 3) := by decide +kernel
theorem dX5_order_10 : decode cX5_order 10 = .ok (.iload_n 2, 1) := by decide +kernel
theorem dX5_order_11 : decode cX5_order 11 = .ok (.laload, 1) := by decide +kernel
theorem dX5_order_12 : decode cX5_order 12 = .ok (.lcmp, 1) := by decide +kernel
theorem dX5_order_13 : decode cX5_order 13 = .ok (.ifCond .gt 4, 3) := by decide +kernel
theorem dX5_order_16 : decode cX5_order 16 = .ok (.return_, 1) := by decide +kernel
theorem dX5_order_17 : decode cX5_order 17 = .ok (.aload_n 0, 1) := by decide +kernel
theorem dX5_order_18 : decode cX5_order 18 = .ok (.getfield 7, 3) := by decide +kernel
theorem dX5_order_21 : decode cX5_order 21 = .ok (.iload_n 1, 1) := by decide +kernel
theorem dX5_order_22 : decode cX5_order 22 = .ok (.iaload, 1) := by decide +kernel
theorem dX5_order_23 : decode cX5_order 23 = .ok (.istore_n 3, 1) := by decide +kernel
theorem dX5_order_24 : decode cX5_order 24 = .ok (.aload_n 0, 1) := by decide +kernel
theorem dX5_order_25 : decode cX5_order 25 = .ok (.getfield 13, 3) := by decide +kernel
theorem dX5_order_28 : decode cX5_order 28 = .ok (.iload_n 1, 1) := by decide +kernel
theorem dX5_order_29 : decode cX5_order 29 = .ok (.laload, 1) := by decide +kernel
theorem dX5_order_30 : decode cX5_order 30 = .ok (.lstore 4, 2) := by decide +kernel
theorem dX5_order_32 : decode cX5_order 32 = .ok (.aload_n 0, 1) := by decide +kernel
theorem dX5_order_33 : decode cX5_order 33 = .ok (.getfield 7, 3) := by decide +kernel
theorem dX5_order_36 : decode cX5_order 36 = .ok (.iload_n 1, 1) := by decide +kernel
theorem dX5_order_37 : decode cX5_order 37 = .ok (.aload_n 0, 1) := by decide +kernel
theorem dX5_order_38 : decode cX5_order 38 = .ok (.getfield 7, 3) := by decide +kernel
theorem dX5_order_41 : decode cX5_order 41 = .ok (.iload_n 2, 1) := by decide +kernel
theorem dX5_order_42 : decode cX5_order 42 = .ok (.iaload, 1) := by decide +kernel
theorem dX5_order_43 : decode cX5_order 43 = .ok (.iastore, 1) := by decide +kernel
theorem dX5_order_44 : decode cX5_order 44 = .ok (.aload_n 0, 1) := by decide +kernel
theorem dX5_order_45 : decode cX5_order 45 = .ok (.getfield 13, 3) := by decide +kernel
theorem dX5_order_48 : decode cX5_order 48 = .ok (.iload_n 1, 1) := by decide +kernel
theorem dX5_order_49 : decode cX5_order 49 = .ok (.aload_n 0, 1) := by decide +kernel
theorem dX5_order_50 : decode cX5_order 50 = .ok (.getfield 13, 3) := by decide +kernel
theorem dX5_order_53 : decode cX5_order 53 = .ok (.iload_n 2, 1) := by decide +kernel
theorem dX5_order_54 : decode cX5_order 54 = .ok (.laload, 1) := by decide +kernel
theorem dX5_order_55 : decode cX5_order 55 = .ok (.lastore, 1) := by decide +kernel
theorem dX5_order_56 : decode cX5_order 56 = .ok (.aload_n 0, 1) := by decide +kernel
theorem dX5_order_57 : decode cX5_order 57 = .ok (.getfield 7, 3) := by decide +kernel
theorem dX5_order_60 : decode cX5_order 60 = .ok (.iload_n 2, 1) := by decide +kernel
theorem dX5_order_61 : decode cX5_order 61 = .ok (.iload_n 3, 1) := by decide +kernel
theorem dX5_order_62 : decode cX5_order 62 = .ok (.iastore, 1) := by decide +kernel
theorem dX5_order_63 : decode cX5_order 63 = .ok (.aload_n 0, 1) := by decide +kernel
theorem dX5_order_64 : decode cX5_order 64 = .ok (.getfield 13, 3) := by decide +kernel
theorem dX5_order_67 : decode cX5_order 67 = .ok (.iload_n 2, 1) := by decide +kernel
theorem dX5_order_68 : decode cX5_order 68 = .ok (.lload 4, 2) := by decide +kernel
theorem dX5_order_70 : decode cX5_order 70 = .ok (.lastore, 1) := by decide +kernel
theorem dX5_order_71 : decode cX5_order 71 = .ok (.return_, 1) := by decide +kernel
theorem dX5_turnOf_0 : decode cX5_turnOf 0 = .ok (.aload_n 0, 1) := by decide +kernel
theorem dX5_turnOf_1 : decode cX5_turnOf 1 = .ok (.getfield 7, 3) := by decide +kernel
theorem dX5_turnOf_4 : decode cX5_turnOf 4 = .ok (.iconst 0, 1) := by decide +kernel
theorem dX5_turnOf_5 : decode cX5_turnOf 5 = .ok (.iaload, 1) := by decide +kernel
theorem dX5_turnOf_6 : decode cX5_turnOf 6 = .ok (.istore_n 2, 1) := by decide +kernel
theorem dX5_turnOf_7 : decode cX5_turnOf 7 = .ok (.aload_n 0, 1) := by decide +kernel
theorem dX5_turnOf_8 : decode cX5_turnOf 8 = .ok (.getfield 7, 3) := by decide +kernel
theorem dX5_turnOf_11 : decode cX5_turnOf 11 = .ok (.iconst 1, 1) := by decide +kernel
theorem dX5_turnOf_12 : decode cX5_turnOf 12 = .ok (.iaload, 1) := by decide +kernel
theorem dX5_turnOf_13 : decode cX5_turnOf 13 = .ok (.istore_n 3, 1) := by decide +kernel
theorem dX5_turnOf_14 : decode cX5_turnOf 14 = .ok (.aload_n 0, 1) := by decide +kernel
theorem dX5_turnOf_15 : decode cX5_turnOf 15 = .ok (.getfield 7, 3) := by decide +kernel
theorem dX5_turnOf_18 : decode cX5_turnOf 18 = .ok (.iconst 2, 1) := by decide +kernel
theorem dX5_turnOf_19 : decode cX5_turnOf 19 = .ok (.iaload, 1) := by decide +kernel
theorem dX5_turnOf_20 : decode cX5_turnOf 20 = .ok (.istore 4, 2) := by decide +kernel
theorem dX5_turnOf_22 : decode cX5_turnOf 22 = .ok (.aload_n 1, 1) := by decide +kernel
theorem dX5_turnOf_23 : decode cX5_turnOf 23 = .ok (.getfield 49, 3) := by decide +kernel
theorem dX5_turnOf_26 : decode cX5_turnOf 26 = .ok (.iload_n 3, 1) := by decide +kernel
theorem dX5_turnOf_27 : decode cX5_turnOf 27 = .ok (.iaload, 1) := by decide +kernel
theorem dX5_turnOf_28 : decode cX5_turnOf 28 = .ok (.aload_n 1, 1) := by decide +kernel
theorem dX5_turnOf_29 : decode cX5_turnOf 29 = .ok (.getfield 49, 3) := by decide +kernel
theorem dX5_turnOf_32 : decode cX5_turnOf 32 = .ok (.iload_n 2, 1) := by decide +kernel
theorem dX5_turnOf_33 : decode cX5_turnOf 33 = .ok (.iaload, 1) := by decide +kernel
theorem dX5_turnOf_34 : decode cX5_turnOf 34 = .ok (.isub, 1) := by decide +kernel
theorem dX5_turnOf_35 : decode cX5_turnOf 35 = .ok (.i2l, 1) := by decide +kernel
theorem dX5_turnOf_36 : decode cX5_turnOf 36 = .ok (.aload_n 1, 1) := by decide +kernel
theorem dX5_turnOf_37 : decode cX5_turnOf 37 = .ok (.getfield 54, 3) := by decide +kernel
theorem dX5_turnOf_40 : decode cX5_turnOf 40 = .ok (.iload 4, 2) := by decide +kernel
theorem dX5_turnOf_42 : decode cX5_turnOf 42 = .ok (.iaload, 1) := by decide +kernel
theorem dX5_turnOf_43 : decode cX5_turnOf 43 = .ok (.aload_n 1, 1) := by decide +kernel
theorem dX5_turnOf_44 : decode cX5_turnOf 44 = .ok (.getfield 54, 3) := by decide +kernel
theorem dX5_turnOf_47 : decode cX5_turnOf 47 = .ok (.iload_n 2, 1) := by decide +kernel
theorem dX5_turnOf_48 : decode cX5_turnOf 48 = .ok (.iaload, 1) := by decide +kernel
theorem dX5_turnOf_49 : decode cX5_turnOf 49 = .ok (.isub, 1) := by decide +kernel
theorem dX5_turnOf_50 : decode cX5_turnOf 50 = .ok (.i2l, 1) := by decide +kernel
theorem dX5_turnOf_51 : decode cX5_turnOf 51 = .ok (.lmul, 1) := by decide +kernel
theorem dX5_turnOf_52 : decode cX5_turnOf 52 = .ok (.lstore 5, 2) := by decide +kernel
theorem dX5_turnOf_54 : decode cX5_turnOf 54 = .ok (.aload_n 1, 1) := by decide +kernel
theorem dX5_turnOf_55 : decode cX5_turnOf 55 = .ok (.getfield 54, 3) := by decide +kernel
theorem dX5_turnOf_58 : decode cX5_turnOf 58 = .ok (.iload_n 3, 1) := by decide +kernel
theorem dX5_turnOf_59 : decode cX5_turnOf 59 = .ok (.iaload, 1) := by decide +kernel
theorem dX5_turnOf_60 : decode cX5_turnOf 60 = .ok (.aload_n 1, 1) := by decide +kernel
theorem dX5_turnOf_61 : decode cX5_turnOf 61 = .ok (.getfield 54, 3) := by decide +kernel
theorem dX5_turnOf_64 : decode cX5_turnOf 64 = .ok (.iload_n 2, 1) := by decide +kernel
theorem dX5_turnOf_65 : decode cX5_turnOf 65 = .ok (.iaload, 1) := by decide +kernel
theorem dX5_turnOf_66 : decode cX5_turnOf 66 = .ok (.isub, 1) := by decide +kernel
theorem dX5_turnOf_67 : decode cX5_turnOf 67 = .ok (.i2l, 1) := by decide +kernel
theorem dX5_turnOf_68 : decode cX5_turnOf 68 = .ok (.aload_n 1, 1) := by decide +kernel
theorem dX5_turnOf_69 : decode cX5_turnOf 69 = .ok (.getfield 49, 3) := by decide +kernel
theorem dX5_turnOf_72 : decode cX5_turnOf 72 = .ok (.iload 4, 2) := by decide +kernel
theorem dX5_turnOf_74 : decode cX5_turnOf 74 = .ok (.iaload, 1) := by decide +kernel
theorem dX5_turnOf_75 : decode cX5_turnOf 75 = .ok (.aload_n 1, 1) := by decide +kernel
theorem dX5_turnOf_76 : decode cX5_turnOf 76 = .ok (.getfield 49, 3) := by decide +kernel
theorem dX5_turnOf_79 : decode cX5_turnOf 79 = .ok (.iload_n 2, 1) := by decide +kernel
theorem dX5_turnOf_80 : decode cX5_turnOf 80 = .ok (.iaload, 1) := by decide +kernel
theorem dX5_turnOf_81 : decode cX5_turnOf 81 = .ok (.isub, 1) := by decide +kernel
theorem dX5_turnOf_82 : decode cX5_turnOf 82 = .ok (.i2l, 1) := by decide +kernel
theorem dX5_turnOf_83 : decode cX5_turnOf 83 = .ok (.lmul, 1) := by decide +kernel
theorem dX5_turnOf_84 : decode cX5_turnOf 84 = .ok (.lstore 7, 2) := by decide +kernel
theorem dX5_turnOf_86 : decode cX5_turnOf 86 = .ok (.lload 5, 2) := by decide +kernel
theorem dX5_turnOf_88 : decode cX5_turnOf 88 = .ok (.lload 7, 2) := by decide +kernel
theorem dX5_turnOf_90 : decode cX5_turnOf 90 = .ok (.lsub, 1) := by decide +kernel
theorem dX5_turnOf_91 : decode cX5_turnOf 91 = .ok (.lreturn, 1) := by decide +kernel
theorem dX5_squareBetween_0 : decode cX5_squareBetween 0 = .ok (.aload_n 0, 1) := by decide +kernel
theorem dX5_squareBetween_1 : decode cX5_squareBetween 1 = .ok (.getfield 49, 3) := by decide +kernel
theorem dX5_squareBetween_4 : decode cX5_squareBetween 4 = .ok (.iload_n 1, 1) := by decide +kernel
theorem dX5_squareBetween_5 : decode cX5_squareBetween 5 = .ok (.iaload, 1) := by decide +kernel
theorem dX5_squareBetween_6 : decode cX5_squareBetween 6 = .ok (.aload_n 0, 1) := by decide +kernel
theorem dX5_squareBetween_7 : decode cX5_squareBetween 7 = .ok (.getfield 49, 3) := by decide +kernel
theorem dX5_squareBetween_10 : decode cX5_squareBetween 10 = .ok (.iload_n 2, 1) := by decide +kernel
theorem dX5_squareBetween_11 : decode cX5_squareBetween 11 = .ok (.iaload, 1) := by decide +kernel
theorem dX5_squareBetween_12 : decode cX5_squareBetween 12 = .ok (.isub, 1) := by decide +kernel
theorem dX5_squareBetween_13 : decode cX5_squareBetween 13 = .ok (.i2l, 1) := by decide +kernel
theorem dX5_squareBetween_14 : decode cX5_squareBetween 14 = .ok (.lstore_n 3, 1) := by decide +kernel
theorem dX5_squareBetween_15 : decode cX5_squareBetween 15 = .ok (.aload_n 0, 1) := by decide +kernel
theorem dX5_squareBetween_16 : decode cX5_squareBetween 16 = .ok (.getfield 54, 3) := by decide +kernel
theorem dX5_squareBetween_19 : decode cX5_squareBetween 19 = .ok (.iload_n 1, 1) := by decide +kernel
theorem dX5_squareBetween_20 : decode cX5_squareBetween 20 = .ok (.iaload, 1) := by decide +kernel
theorem dX5_squareBetween_21 : decode cX5_squareBetween 21 = .ok (.aload_n 0, 1) := by decide +kernel
theorem dX5_squareBetween_22 : decode cX5_squareBetween 22 = .ok (.getfield 54, 3) := by decide +kernel
theorem dX5_squareBetween_25 : decode cX5_squareBetween 25 = .ok (.iload_n 2, 1) := by decide +kernel
theorem dX5_squareBetween_26 : decode cX5_squareBetween 26 = .ok (.iaload, 1) := by decide +kernel
theorem dX5_squareBetween_27 : decode cX5_squareBetween 27 = .ok (.isub, 1) := by decide +kernel
theorem dX5_squareBetween_28 : decode cX5_squareBetween 28 = .ok (.i2l, 1) := by decide +kernel
theorem dX5_squareBetween_29 : decode cX5_squareBetween 29 = .ok (.lstore 5, 2) := by decide +kernel
theorem dX5_squareBetween_31 : decode cX5_squareBetween 31 = .ok (.lload_n 3, 1) := by decide +kernel
theorem dX5_squareBetween_32 : decode cX5_squareBetween 32 = .ok (.lload_n 3, 1) := by decide +kernel
theorem dX5_squareBetween_33 : decode cX5_squareBetween 33 = .ok (.lmul, 1) := by decide +kernel
theorem dX5_squareBetween_34 : decode cX5_squareBetween 34 = .ok (.lload 5, 2) := by decide +kernel
theorem dX5_squareBetween_36 : decode cX5_squareBetween 36 = .ok (.lload 5, 2) := by decide +kernel
theorem dX5_squareBetween_38 : decode cX5_squareBetween 38 = .ok (.lmul, 1) := by decide +kernel
theorem dX5_squareBetween_39 : decode cX5_squareBetween 39 = .ok (.ladd, 1) := by decide +kernel
theorem dX5_squareBetween_40 : decode cX5_squareBetween 40 = .ok (.lreturn, 1) := by decide +kernel
theorem dX6_init_0 : decode cX6_init 0 = .ok (.aload_n 0, 1) := by decide +kernel
theorem dX6_init_1 : decode cX6_init 1 = .ok (.invokespecial 3, 3) := by decide +kernel
theorem dX6_init_4 : decode cX6_init 4 = .ok (.aload_n 0, 1) := by decide +kernel
theorem dX6_init_5 : decode cX6_init 5 = .ok (.new 9, 3) := by decide +kernel
theorem dX6_init_8 : decode cX6_init 8 = .ok (.dup, 1) := by decide +kernel
theorem dX6_init_9 : decode cX6_init 9 = .ok (.invokespecial 11, 3) := by decide +kernel
theorem dX6_init_12 : decode cX6_init 12 = .ok (.putfield 12, 3) := by decide +kernel
theorem dX6_init_15 : decode cX6_init 15 = .ok (.aload_n 0, 1) := by decide +kernel
theorem dX6_init_16 : decode cX6_init 16 = .ok (.bipush 56, 2) := by decide +kernel
theorem dX6_init_18 : decode cX6_init 18 = .ok (.newarray .int, 2) := by decide +kernel
theorem dX6_init_20 : decode cX6_init 20 = .ok (.putfield 18, 3) := by decide +kernel
theorem dX6_init_23 : decode cX6_init 23 = .ok (.aload_n 0, 1) := by decide +kernel
theorem dX6_init_24 : decode cX6_init 24 = .ok (.bipush 56, 2) := by decide +kernel
theorem dX6_init_26 : decode cX6_init 26 = .ok (.newarray .int, 2) := by decide +kernel
theorem dX6_init_28 : decode cX6_init 28 = .ok (.putfield 22, 3) := by decide +kernel
theorem dX6_init_31 : decode cX6_init 31 = .ok (.aload_n 0, 1) := by decide +kernel
theorem dX6_init_32 : decode cX6_init 32 = .ok (.bipush 56, 2) := by decide +kernel
theorem dX6_init_34 : decode cX6_init 34 = .ok (.newarray .int, 2) := by decide +kernel
theorem dX6_init_36 : decode cX6_init 36 = .ok (.putfield 25, 3) := by decide +kernel
theorem dX6_init_39 : decode cX6_init 39 = .ok (.aload_n 0, 1) := by decide +kernel
theorem dX6_init_40 : decode cX6_init 40 = .ok (.bipush 56, 2) := by decide +kernel
theorem dX6_init_42 : decode cX6_init 42 = .ok (.newarray .int, 2) := by decide +kernel
theorem dX6_init_44 : decode cX6_init 44 = .ok (.putfield 28, 3) := by decide +kernel
theorem dX6_init_47 : decode cX6_init 47 = .ok (.aload_n 0, 1) := by decide +kernel
theorem dX6_init_48 : decode cX6_init 48 = .ok (.bipush 56, 2) := by decide +kernel
theorem dX6_init_50 : decode cX6_init 50 = .ok (.newarray .int, 2) := by decide +kernel
theorem dX6_init_52 : decode cX6_init 52 = .ok (.putfield 31, 3) := by decide +kernel
theorem dX6_init_55 : decode cX6_init 55 = .ok (.aload_n 0, 1) := by decide +kernel
theorem dX6_init_56 : decode cX6_init 56 = .ok (.bipush 56, 2) := by decide +kernel
theorem dX6_init_58 : decode cX6_init 58 = .ok (.newarray .int, 2) := by decide +kernel
theorem dX6_init_60 : decode cX6_init 60 = .ok (.putfield 34, 3) := by decide +kernel
theorem dX6_init_63 : decode cX6_init 63 = .ok (.aload_n 0, 1) := by decide +kernel
theorem dX6_init_64 : decode cX6_init 64 = .ok (.iconst 0, 1) := by decide +kernel
theorem dX6_init_65 : decode cX6_init 65 = .ok (.putfield 37, 3) := by decide +kernel
theorem dX6_init_68 : decode cX6_init 68 = .ok (.return_, 1) := by decide +kernel
theorem dX6_gather_0 : decode cX6_gather 0 = .ok (.aload_n 0, 1) := by decide +kernel
theorem dX6_gather_1 : decode cX6_gather 1 = .ok (.iconst 0, 1) := by decide +kernel
theorem dX6_gather_2 : decode cX6_gather 2 = .ok (.putfield 37, 3) := by decide +kernel
theorem dX6_gather_5 : decode cX6_gather 5 = .ok (.iconst 0, 1) := by decide +kernel
theorem dX6_gather_6 : decode cX6_gather 6 = .ok (.istore_n 2, 1) := by decide +kernel
theorem dX6_gather_7 : decode cX6_gather 7 = .ok (.iload_n 2, 1) := by decide +kernel
theorem dX6_gather_8 : decode cX6_gather 8 = .ok (.aload_n 1, 1) := by decide +kernel
theorem dX6_gather_9 : decode cX6_gather 9 = .ok (.getfield 41, 3) := by decide +kernel
theorem dX6_gather_12 : decode cX6_gather 12 = .ok (.if_icmp .ge 63, 3) := by decide +kernel
theorem dX6_gather_15 : decode cX6_gather 15 = .ok (.iload_n 2, 1) := by decide +kernel
theorem dX6_gather_16 : decode cX6_gather 16 = .ok (.iconst 1, 1) := by decide +kernel
theorem dX6_gather_17 : decode cX6_gather 17 = .ok (.iadd, 1) := by decide +kernel
theorem dX6_gather_18 : decode cX6_gather 18 = .ok (.istore_n 3, 1) := by decide +kernel
theorem dX6_gather_19 : decode cX6_gather 19 = .ok (.iload_n 3, 1) := by decide +kernel
theorem dX6_gather_20 : decode cX6_gather 20 = .ok (.aload_n 1, 1) := by decide +kernel
theorem dX6_gather_21 : decode cX6_gather 21 = .ok (.getfield 41, 3) := by decide +kernel
theorem dX6_gather_24 : decode cX6_gather 24 = .ok (.if_icmp .ge 45, 3) := by decide +kernel
theorem dX6_gather_27 : decode cX6_gather 27 = .ok (.iload_n 3, 1) := by decide +kernel
theorem dX6_gather_28 : decode cX6_gather 28 = .ok (.iconst 1, 1) := by decide +kernel
theorem dX6_gather_29 : decode cX6_gather 29 = .ok (.iadd, 1) := by decide +kernel
theorem dX6_gather_30 : decode cX6_gather 30 = .ok (.istore 4, 2) := by decide +kernel
theorem dX6_gather_32 : decode cX6_gather 32 = .ok (.iload 4, 2) := by decide +kernel
theorem dX6_gather_34 : decode cX6_gather 34 = .ok (.aload_n 1, 1) := by decide +kernel
theorem dX6_gather_35 : decode cX6_gather 35 = .ok (.getfield 41, 3) := by decide +kernel
theorem dX6_gather_38 : decode cX6_gather 38 = .ok (.if_icmp .ge 25, 3) := by decide +kernel
theorem dX6_gather_41 : decode cX6_gather 41 = .ok (.aload_n 0, 1) := by decide +kernel
theorem dX6_gather_42 : decode cX6_gather 42 = .ok (.getfield 12, 3) := by decide +kernel
theorem dX6_gather_45 : decode cX6_gather 45 = .ok (.aload_n 1, 1) := by decide +kernel
theorem dX6_gather_46 : decode cX6_gather 46 = .ok (.iload_n 2, 1) := by decide +kernel
theorem dX6_gather_47 : decode cX6_gather 47 = .ok (.iload_n 3, 1) := by decide +kernel
theorem dX6_gather_48 : decode cX6_gather 48 = .ok (.iload 4, 2) := by decide +kernel
theorem dX6_gather_50 : decode cX6_gather 50 = .ok (.invokevirtual 44, 3) := by decide +kernel
theorem dX6_gather_53 : decode cX6_gather 53 = .ok (.aload_n 0, 1) := by decide +kernel
theorem dX6_gather_54 : decode cX6_gather 54 = .ok (.invokevirtual 48, 3) := by decide +kernel
theorem dX6_gather_57 : decode cX6_gather 57 = .ok (.iinc 4 1, 3) := by decide +kernel
theorem dX6_gather_60 : decode cX6_gather 60 = .ok (.goto (-28), 3) := by decide +kernel
theorem dX6_gather_63 : decode cX6_gather 63 = .ok (.iinc 3 1, 3) := by decide +kernel
theorem dX6_gather_66 : decode cX6_gather 66 = .ok (.goto (-47), 3) := by decide +kernel
theorem dX6_gather_69 : decode cX6_gather 69 = .ok (.iinc 2 1, 3) := by decide +kernel
theorem dX6_gather_72 : decode cX6_gather 72 = .ok (.goto (-65), 3) := by decide +kernel
theorem dX6_gather_75 : decode cX6_gather 75 = .ok (.return_, 1) := by decide +kernel
theorem dX6_append_0 : decode cX6_append 0 = .ok (.aload_n 0, 1) := by decide +kernel
theorem dX6_append_1 : decode cX6_append 1 = .ok (.getfield 12, 3) := by decide +kernel
theorem dX6_append_4 : decode cX6_append 4 = .ok (.getfield 51, 3) := by decide +kernel
theorem dX6_append_7 : decode cX6_append 7 = .ok (.ifCond .ne 12, 3) := by decide +kernel
theorem dX6_append_10 : decode cX6_append 10 = .ok (.aload_n 0, 1) := by decide +kernel
theorem dX6_append_11 : decode cX6_append 11 = .ok (.getfield 37, 3) := by decide +kernel
theorem dX6_append_14 : decode cX6_append 14 = .ok (.bipush 56, 2) := by decide +kernel
theorem dX6_append_16 : decode cX6_append 16 = .ok (.if_icmp .lt 4, 3) := by decide +kernel
theorem dX6_append_19 : decode cX6_append 19 = .ok (.return_, 1) := by decide +kernel
theorem dX6_append_20 : decode cX6_append 20 = .ok (.aload_n 0, 1) := by decide +kernel
theorem dX6_append_21 : decode cX6_append 21 = .ok (.getfield 18, 3) := by decide +kernel
theorem dX6_append_24 : decode cX6_append 24 = .ok (.aload_n 0, 1) := by decide +kernel
theorem dX6_append_25 : decode cX6_append 25 = .ok (.getfield 37, 3) := by decide +kernel
theorem dX6_append_28 : decode cX6_append 28 = .ok (.aload_n 0, 1) := by decide +kernel
theorem dX6_append_29 : decode cX6_append 29 = .ok (.getfield 12, 3) := by decide +kernel
theorem dX6_append_32 : decode cX6_append 32 = .ok (.getfield 55, 3) := by decide +kernel
theorem dX6_append_35 : decode cX6_append 35 = .ok (.iconst 0, 1) := by decide +kernel
theorem dX6_append_36 : decode cX6_append 36 = .ok (.iaload, 1) := by decide +kernel
theorem dX6_append_37 : decode cX6_append 37 = .ok (.iastore, 1) := by decide +kernel
theorem dX6_append_38 : decode cX6_append 38 = .ok (.aload_n 0, 1) := by decide +kernel
theorem dX6_append_39 : decode cX6_append 39 = .ok (.getfield 22, 3) := by decide +kernel
theorem dX6_append_42 : decode cX6_append 42 = .ok (.aload_n 0, 1) := by decide +kernel
theorem dX6_append_43 : decode cX6_append 43 = .ok (.getfield 37, 3) := by decide +kernel
theorem dX6_append_46 : decode cX6_append 46 = .ok (.aload_n 0, 1) := by decide +kernel
theorem dX6_append_47 : decode cX6_append 47 = .ok (.getfield 12, 3) := by decide +kernel
theorem dX6_append_50 : decode cX6_append 50 = .ok (.getfield 55, 3) := by decide +kernel
theorem dX6_append_53 : decode cX6_append 53 = .ok (.iconst 1, 1) := by decide +kernel
theorem dX6_append_54 : decode cX6_append 54 = .ok (.iaload, 1) := by decide +kernel
theorem dX6_append_55 : decode cX6_append 55 = .ok (.iastore, 1) := by decide +kernel
theorem dX6_append_56 : decode cX6_append 56 = .ok (.aload_n 0, 1) := by decide +kernel
theorem dX6_append_57 : decode cX6_append 57 = .ok (.getfield 25, 3) := by decide +kernel
theorem dX6_append_60 : decode cX6_append 60 = .ok (.aload_n 0, 1) := by decide +kernel
theorem dX6_append_61 : decode cX6_append 61 = .ok (.getfield 37, 3) := by decide +kernel
theorem dX6_append_64 : decode cX6_append 64 = .ok (.aload_n 0, 1) := by decide +kernel
theorem dX6_append_65 : decode cX6_append 65 = .ok (.getfield 12, 3) := by decide +kernel
theorem dX6_append_68 : decode cX6_append 68 = .ok (.getfield 55, 3) := by decide +kernel
theorem dX6_append_71 : decode cX6_append 71 = .ok (.iconst 2, 1) := by decide +kernel
theorem dX6_append_72 : decode cX6_append 72 = .ok (.iaload, 1) := by decide +kernel
theorem dX6_append_73 : decode cX6_append 73 = .ok (.iastore, 1) := by decide +kernel
theorem dX6_append_74 : decode cX6_append 74 = .ok (.aload_n 0, 1) := by decide +kernel
theorem dX6_append_75 : decode cX6_append 75 = .ok (.getfield 28, 3) := by decide +kernel
theorem dX6_append_78 : decode cX6_append 78 = .ok (.aload_n 0, 1) := by decide +kernel
theorem dX6_append_79 : decode cX6_append 79 = .ok (.getfield 37, 3) := by decide +kernel
theorem dX6_append_82 : decode cX6_append 82 = .ok (.aload_n 0, 1) := by decide +kernel
theorem dX6_append_83 : decode cX6_append 83 = .ok (.getfield 12, 3) := by decide +kernel
theorem dX6_append_86 : decode cX6_append 86 = .ok (.getfield 58, 3) := by decide +kernel
theorem dX6_append_89 : decode cX6_append 89 = .ok (.iastore, 1) := by decide +kernel
theorem dX6_append_90 : decode cX6_append 90 = .ok (.aload_n 0, 1) := by decide +kernel
theorem dX6_append_91 : decode cX6_append 91 = .ok (.getfield 31, 3) := by decide +kernel
theorem dX6_append_94 : decode cX6_append 94 = .ok (.aload_n 0, 1) := by decide +kernel
theorem dX6_append_95 : decode cX6_append 95 = .ok (.getfield 37, 3) := by decide +kernel
theorem dX6_append_98 : decode cX6_append 98 = .ok (.aload_n 0, 1) := by decide +kernel
theorem dX6_append_99 : decode cX6_append 99 = .ok (.getfield 12, 3) := by decide +kernel
theorem dX6_append_102 : decode cX6_append 102 = .ok (.getfield 60, 3) := by decide +kernel
theorem dX6_append_105 : decode cX6_append 105 = .ok (.iastore, 1) := by decide +kernel
theorem dX6_append_106 : decode cX6_append 106 = .ok (.aload_n 0, 1) := by decide +kernel
theorem dX6_append_107 : decode cX6_append 107 = .ok (.getfield 34, 3) := by decide +kernel
theorem dX6_append_110 : decode cX6_append 110 = .ok (.aload_n 0, 1) := by decide +kernel
theorem dX6_append_111 : decode cX6_append 111 = .ok (.getfield 37, 3) := by decide +kernel
theorem dX6_append_114 : decode cX6_append 114 = .ok (.aload_n 0, 1) := by decide +kernel
theorem dX6_append_115 : decode cX6_append 115 = .ok (.getfield 12, 3) := by decide +kernel
theorem dX6_append_118 : decode cX6_append 118 = .ok (.getfield 62, 3) := by decide +kernel
theorem dX6_append_121 : decode cX6_append 121 = .ok (.iastore, 1) := by decide +kernel
theorem dX6_append_122 : decode cX6_append 122 = .ok (.aload_n 0, 1) := by decide +kernel
theorem dX6_append_123 : decode cX6_append 123 = .ok (.dup, 1) := by decide +kernel
theorem dX6_append_124 : decode cX6_append 124 = .ok (.getfield 37, 3) := by decide +kernel
theorem dX6_append_127 : decode cX6_append 127 = .ok (.iconst 1, 1) := by decide +kernel
theorem dX6_append_128 : decode cX6_append 128 = .ok (.iadd, 1) := by decide +kernel
theorem dX6_append_129 : decode cX6_append 129 = .ok (.putfield 37, 3) := by decide +kernel
theorem dX6_append_132 : decode cX6_append 132 = .ok (.return_, 1) := by decide +kernel
theorem dX7_init_0 : decode cX7_init 0 = .ok (.aload_n 0, 1) := by decide +kernel
theorem dX7_init_1 : decode cX7_init 1 = .ok (.invokespecial 3, 3) := by decide +kernel
theorem dX7_init_4 : decode cX7_init 4 = .ok (.aload_n 0, 1) := by decide +kernel
theorem dX7_init_5 : decode cX7_init 5 = .ok (.bipush 8, 2) := by decide +kernel
theorem dX7_init_7 : decode cX7_init 7 = .ok (.newarray .int, 2) := by decide +kernel
theorem dX7_init_9 : decode cX7_init 9 = .ok (.putfield 9, 3) := by decide +kernel
theorem dX7_init_12 : decode cX7_init 12 = .ok (.aload_n 0, 1) := by decide +kernel
theorem dX7_init_13 : decode cX7_init 13 = .ok (.iconst 0, 1) := by decide +kernel
theorem dX7_init_14 : decode cX7_init 14 = .ok (.putfield 15, 3) := by decide +kernel
theorem dX7_init_17 : decode cX7_init 17 = .ok (.aload_n 0, 1) := by decide +kernel
theorem dX7_init_18 : decode cX7_init 18 = .ok (.iconst 2, 1) := by decide +kernel
theorem dX7_init_19 : decode cX7_init 19 = .ok (.putfield 19, 3) := by decide +kernel
theorem dX7_init_22 : decode cX7_init 22 = .ok (.aload_n 0, 1) := by decide +kernel
theorem dX7_init_23 : decode cX7_init 23 = .ok (.iconst 0, 1) := by decide +kernel
theorem dX7_init_24 : decode cX7_init 24 = .ok (.putfield 23, 3) := by decide +kernel
theorem dX7_init_27 : decode cX7_init 27 = .ok (.return_, 1) := by decide +kernel
theorem dX7_renew_0 : decode cX7_renew 0 = .ok (.aload_n 0, 1) := by decide +kernel
theorem dX7_renew_1 : decode cX7_renew 1 = .ok (.getfield 9, 3) := by decide +kernel
theorem dX7_renew_4 : decode cX7_renew 4 = .ok (.bipush (-9), 2) := by decide +kernel
theorem dX7_renew_6 : decode cX7_renew 6 = .ok (.invokestatic 26, 3) := by decide +kernel
theorem dX7_renew_9 : decode cX7_renew 9 = .ok (.aload_n 0, 1) := by decide +kernel
theorem dX7_renew_10 : decode cX7_renew 10 = .ok (.iconst 1, 1) := by decide +kernel
theorem dX7_renew_11 : decode cX7_renew 11 = .ok (.putfield 15, 3) := by decide +kernel
theorem dX7_renew_14 : decode cX7_renew 14 = .ok (.aload_n 0, 1) := by decide +kernel
theorem dX7_renew_15 : decode cX7_renew 15 = .ok (.iload_n 1, 1) := by decide +kernel
theorem dX7_renew_16 : decode cX7_renew 16 = .ok (.putfield 19, 3) := by decide +kernel
theorem dX7_renew_19 : decode cX7_renew 19 = .ok (.aload_n 0, 1) := by decide +kernel
theorem dX7_renew_20 : decode cX7_renew 20 = .ok (.iload_n 2, 1) := by decide +kernel
theorem dX7_renew_21 : decode cX7_renew 21 = .ok (.putfield 23, 3) := by decide +kernel
theorem dX7_renew_24 : decode cX7_renew 24 = .ok (.return_, 1) := by decide +kernel
theorem dX7_faultAt_0 : decode cX7_faultAt 0 = .ok (.aload_n 0, 1) := by decide +kernel
theorem dX7_faultAt_1 : decode cX7_faultAt 1 = .ok (.getfield 15, 3) := by decide +kernel
theorem dX7_faultAt_4 : decode cX7_faultAt 4 = .ok (.ifCond .ne 6, 3) := by decide +kernel
theorem dX7_faultAt_7 : decode cX7_faultAt 7 = .ok (.bipush (-11), 2) := by decide +kernel
theorem dX7_faultAt_9 : decode cX7_faultAt 9 = .ok (.ireturn, 1) := by decide +kernel
theorem dX7_faultAt_10 : decode cX7_faultAt 10 = .ok (.iload_n 1, 1) := by decide +kernel
theorem dX7_faultAt_11 : decode cX7_faultAt 11 = .ok (.ifCond .lt 15, 3) := by decide +kernel
theorem dX7_faultAt_14 : decode cX7_faultAt 14 = .ok (.iload_n 1, 1) := by decide +kernel
theorem dX7_faultAt_15 : decode cX7_faultAt 15 = .ok (.aload_n 0, 1) := by decide +kernel
theorem dX7_faultAt_16 : decode cX7_faultAt 16 = .ok (.getfield 23, 3) := by decide +kernel
theorem dX7_faultAt_19 : decode cX7_faultAt 19 = .ok (.if_icmp .ge 7, 3) := by decide +kernel
theorem dX7_faultAt_22 : decode cX7_faultAt 22 = .ok (.iconst 0, 1) := by decide +kernel
theorem dX7_faultAt_23 : decode cX7_faultAt 23 = .ok (.goto 5, 3) := by decide +kernel
theorem dX7_faultAt_26 : decode cX7_faultAt 26 = .ok (.bipush (-13), 2) := by decide +kernel
theorem dX7_faultAt_28 : decode cX7_faultAt 28 = .ok (.ireturn, 1) := by decide +kernel
theorem dX7_takes_0 : decode cX7_takes 0 = .ok (.aload_n 0, 1) := by decide +kernel
theorem dX7_takes_1 : decode cX7_takes 1 = .ok (.getfield 19, 3) := by decide +kernel
theorem dX7_takes_4 : decode cX7_takes 4 = .ok (.iconst 2, 1) := by decide +kernel
theorem dX7_takes_5 : decode cX7_takes 5 = .ok (.if_icmp .eq 19, 3) := by decide +kernel
theorem dX7_takes_8 : decode cX7_takes 8 = .ok (.aload_n 0, 1) := by decide +kernel
theorem dX7_takes_9 : decode cX7_takes 9 = .ok (.getfield 19, 3) := by decide +kernel
theorem dX7_takes_12 : decode cX7_takes 12 = .ok (.iload_n 1, 1) := by decide +kernel
theorem dX7_takes_13 : decode cX7_takes 13 = .ok (.ifCond .ne 7, 3) := by decide +kernel
theorem dX7_takes_16 : decode cX7_takes 16 = .ok (.iconst 0, 1) := by decide +kernel
theorem dX7_takes_17 : decode cX7_takes 17 = .ok (.goto 4, 3) := by decide +kernel
theorem dX7_takes_20 : decode cX7_takes 20 = .ok (.iconst 1, 1) := by decide +kernel
theorem dX7_takes_21 : decode cX7_takes 21 = .ok (.if_icmp .ne 7, 3) := by decide +kernel
theorem dX7_takes_24 : decode cX7_takes 24 = .ok (.iconst 1, 1) := by decide +kernel
theorem dX7_takes_25 : decode cX7_takes 25 = .ok (.goto 4, 3) := by decide +kernel
theorem dX7_takes_28 : decode cX7_takes 28 = .ok (.iconst 0, 1) := by decide +kernel
theorem dX7_takes_29 : decode cX7_takes 29 = .ok (.ireturn, 1) := by decide +kernel
theorem dJ9_floorDiv_f86c9_0 : decode cJ9_floorDiv_f86c9 0 = .ok (.lload_n 0, 1) := by decide +kernel
theorem dJ9_floorDiv_f86c9_1 : decode cJ9_floorDiv_f86c9 1 = .ok (.lload_n 2, 1) := by decide +kernel
theorem dJ9_floorDiv_f86c9_2 : decode cJ9_floorDiv_f86c9 2 = .ok (.ldiv, 1) := by decide +kernel
theorem dJ9_floorDiv_f86c9_3 : decode cJ9_floorDiv_f86c9 3 = .ok (.lstore 4, 2) := by decide +kernel
theorem dJ9_floorDiv_f86c9_5 : decode cJ9_floorDiv_f86c9 5 = .ok (.lload_n 0, 1) := by decide +kernel
theorem dJ9_floorDiv_f86c9_6 : decode cJ9_floorDiv_f86c9 6 = .ok (.lload_n 2, 1) := by decide +kernel
theorem dJ9_floorDiv_f86c9_7 : decode cJ9_floorDiv_f86c9 7 = .ok (.lxor, 1) := by decide +kernel
theorem dJ9_floorDiv_f86c9_8 : decode cJ9_floorDiv_f86c9 8 = .ok (.lconst 0, 1) := by decide +kernel
theorem dJ9_floorDiv_f86c9_9 : decode cJ9_floorDiv_f86c9 9 = .ok (.lcmp, 1) := by decide +kernel
theorem dJ9_floorDiv_f86c9_10 : decode cJ9_floorDiv_f86c9 10 = .ok (.ifCond .ge 17, 3) := by decide +kernel
theorem dJ9_floorDiv_f86c9_13 : decode cJ9_floorDiv_f86c9 13 = .ok (.lload 4, 2) := by decide +kernel
theorem dJ9_floorDiv_f86c9_15 : decode cJ9_floorDiv_f86c9 15 = .ok (.lload_n 2, 1) := by decide +kernel
theorem dJ9_floorDiv_f86c9_16 : decode cJ9_floorDiv_f86c9 16 = .ok (.lmul, 1) := by decide +kernel
theorem dJ9_floorDiv_f86c9_17 : decode cJ9_floorDiv_f86c9 17 = .ok (.lload_n 0, 1) := by decide +kernel
theorem dJ9_floorDiv_f86c9_18 : decode cJ9_floorDiv_f86c9 18 = .ok (.lcmp, 1) := by decide +kernel
theorem dJ9_floorDiv_f86c9_19 : decode cJ9_floorDiv_f86c9 19 = .ok (.ifCond .eq 8, 3) := by decide +kernel
theorem dJ9_floorDiv_f86c9_22 : decode cJ9_floorDiv_f86c9 22 = .ok (.lload 4, 2) := by decide +kernel
theorem dJ9_floorDiv_f86c9_24 : decode cJ9_floorDiv_f86c9 24 = .ok (.lconst 1, 1) := by decide +kernel
theorem dJ9_floorDiv_f86c9_25 : decode cJ9_floorDiv_f86c9 25 = .ok (.lsub, 1) := by decide +kernel
theorem dJ9_floorDiv_f86c9_26 : decode cJ9_floorDiv_f86c9 26 = .ok (.lreturn, 1) := by decide +kernel
theorem dJ9_floorDiv_f86c9_27 : decode cJ9_floorDiv_f86c9 27 = .ok (.lload 4, 2) := by decide +kernel
theorem dJ9_floorDiv_f86c9_29 : decode cJ9_floorDiv_f86c9 29 = .ok (.lreturn, 1) := by decide +kernel
theorem dJ9_abs_0f7a4_0 : decode cJ9_abs_0f7a4 0 = .ok (.iload_n 0, 1) := by decide +kernel
theorem dJ9_abs_0f7a4_1 : decode cJ9_abs_0f7a4 1 = .ok (.ifCond .ge 8, 3) := by decide +kernel
theorem dJ9_abs_0f7a4_4 : decode cJ9_abs_0f7a4 4 = .ok (.iload_n 0, 1) := by decide +kernel
theorem dJ9_abs_0f7a4_5 : decode cJ9_abs_0f7a4 5 = .ok (.ineg, 1) := by decide +kernel
theorem dJ9_abs_0f7a4_6 : decode cJ9_abs_0f7a4 6 = .ok (.goto 4, 3) := by decide +kernel
theorem dJ9_abs_0f7a4_9 : decode cJ9_abs_0f7a4 9 = .ok (.iload_n 0, 1) := by decide +kernel
theorem dJ9_abs_0f7a4_10 : decode cJ9_abs_0f7a4 10 = .ok (.ireturn, 1) := by decide +kernel
theorem dJ9_abs_067f4_0 : decode cJ9_abs_067f4 0 = .ok (.lload_n 0, 1) := by decide +kernel
theorem dJ9_abs_067f4_1 : decode cJ9_abs_067f4 1 = .ok (.lconst 0, 1) := by decide +kernel
theorem dJ9_abs_067f4_2 : decode cJ9_abs_067f4 2 = .ok (.lcmp, 1) := by decide +kernel
theorem dJ9_abs_067f4_3 : decode cJ9_abs_067f4 3 = .ok (.ifCond .ge 8, 3) := by decide +kernel
theorem dJ9_abs_067f4_6 : decode cJ9_abs_067f4 6 = .ok (.lload_n 0, 1) := by decide +kernel
theorem dJ9_abs_067f4_7 : decode cJ9_abs_067f4 7 = .ok (.lneg, 1) := by decide +kernel
theorem dJ9_abs_067f4_8 : decode cJ9_abs_067f4 8 = .ok (.goto 4, 3) := by decide +kernel
theorem dJ9_abs_067f4_11 : decode cJ9_abs_067f4 11 = .ok (.lload_n 0, 1) := by decide +kernel
theorem dJ9_abs_067f4_12 : decode cJ9_abs_067f4 12 = .ok (.lreturn, 1) := by decide +kernel
theorem dJ9_max_7cf53_0 : decode cJ9_max_7cf53 0 = .ok (.iload_n 0, 1) := by decide +kernel
theorem dJ9_max_7cf53_1 : decode cJ9_max_7cf53 1 = .ok (.iload_n 1, 1) := by decide +kernel
theorem dJ9_max_7cf53_2 : decode cJ9_max_7cf53 2 = .ok (.if_icmp .lt 7, 3) := by decide +kernel
theorem dJ9_max_7cf53_5 : decode cJ9_max_7cf53 5 = .ok (.iload_n 0, 1) := by decide +kernel
theorem dJ9_max_7cf53_6 : decode cJ9_max_7cf53 6 = .ok (.goto 4, 3) := by decide +kernel
theorem dJ9_max_7cf53_9 : decode cJ9_max_7cf53 9 = .ok (.iload_n 1, 1) := by decide +kernel
theorem dJ9_max_7cf53_10 : decode cJ9_max_7cf53 10 = .ok (.ireturn, 1) := by decide +kernel
theorem dJ9_min_7cf53_0 : decode cJ9_min_7cf53 0 = .ok (.iload_n 0, 1) := by decide +kernel
theorem dJ9_min_7cf53_1 : decode cJ9_min_7cf53 1 = .ok (.iload_n 1, 1) := by decide +kernel
theorem dJ9_min_7cf53_2 : decode cJ9_min_7cf53 2 = .ok (.if_icmp .gt 7, 3) := by decide +kernel
theorem dJ9_min_7cf53_5 : decode cJ9_min_7cf53 5 = .ok (.iload_n 0, 1) := by decide +kernel
theorem dJ9_min_7cf53_6 : decode cJ9_min_7cf53 6 = .ok (.goto 4, 3) := by decide +kernel
theorem dJ9_min_7cf53_9 : decode cJ9_min_7cf53 9 = .ok (.iload_n 1, 1) := by decide +kernel
theorem dJ9_min_7cf53_10 : decode cJ9_min_7cf53 10 = .ok (.ireturn, 1) := by decide +kernel
theorem dJ7_fill_53178_0 : decode cJ7_fill_53178 0 = .ok (.iconst 0, 1) := by decide +kernel
theorem dJ7_fill_53178_1 : decode cJ7_fill_53178 1 = .ok (.istore_n 2, 1) := by decide +kernel
theorem dJ7_fill_53178_2 : decode cJ7_fill_53178 2 = .ok (.aload_n 0, 1) := by decide +kernel
theorem dJ7_fill_53178_3 : decode cJ7_fill_53178 3 = .ok (.arraylength, 1) := by decide +kernel
theorem dJ7_fill_53178_4 : decode cJ7_fill_53178 4 = .ok (.istore_n 3, 1) := by decide +kernel
theorem dJ7_fill_53178_5 : decode cJ7_fill_53178 5 = .ok (.iload_n 2, 1) := by decide +kernel
theorem dJ7_fill_53178_6 : decode cJ7_fill_53178 6 = .ok (.iload_n 3, 1) := by decide +kernel
theorem dJ7_fill_53178_7 : decode cJ7_fill_53178 7 = .ok (.if_icmp .ge 13, 3) := by decide +kernel
theorem dJ7_fill_53178_10 : decode cJ7_fill_53178 10 = .ok (.aload_n 0, 1) := by decide +kernel
theorem dJ7_fill_53178_11 : decode cJ7_fill_53178 11 = .ok (.iload_n 2, 1) := by decide +kernel
theorem dJ7_fill_53178_12 : decode cJ7_fill_53178 12 = .ok (.iload_n 1, 1) := by decide +kernel
theorem dJ7_fill_53178_13 : decode cJ7_fill_53178 13 = .ok (.iastore, 1) := by decide +kernel
theorem dJ7_fill_53178_14 : decode cJ7_fill_53178 14 = .ok (.iinc 2 1, 3) := by decide +kernel
theorem dJ7_fill_53178_17 : decode cJ7_fill_53178 17 = .ok (.goto (-12), 3) := by decide +kernel
theorem dJ7_fill_53178_20 : decode cJ7_fill_53178 20 = .ok (.return_, 1) := by decide +kernel
