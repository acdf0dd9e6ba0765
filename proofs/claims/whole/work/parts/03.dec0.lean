theorem dX0_init_0 : decode cX0_init 0 = .ok (.aload_n 0, 1) := by decide +kernel
theorem dX0_init_1 : decode cX0_init 1 = .ok (.invokespecial 3, 3) := by decide +kernel
theorem dX0_init_4 : decode cX0_init 4 = .ok (.aload_n 0, 1) := by decide +kernel
theorem dX0_init_5 : decode cX0_init 5 = .ok (.bipush 60, 2) := by decide +kernel
theorem dX0_init_7 : decode cX0_init 7 = .ok (.newarray .int, 2) := by decide +kernel
theorem dX0_init_9 : decode cX0_init 9 = .ok (.putfield 9, 3) := by decide +kernel
theorem dX0_init_12 : decode cX0_init 12 = .ok (.aload_n 0, 1) := by decide +kernel
theorem dX0_init_13 : decode cX0_init 13 = .ok (.bipush 60, 2) := by decide +kernel
theorem dX0_init_15 : decode cX0_init 15 = .ok (.newarray .int, 2) := by decide +kernel
theorem dX0_init_17 : decode cX0_init 17 = .ok (.putfield 15, 3) := by decide +kernel
theorem dX0_init_20 : decode cX0_init 20 = .ok (.aload_n 0, 1) := by decide +kernel
theorem dX0_init_21 : decode cX0_init 21 = .ok (.bipush 60, 2) := by decide +kernel
theorem dX0_init_23 : decode cX0_init 23 = .ok (.newarray .int, 2) := by decide +kernel
theorem dX0_init_25 : decode cX0_init 25 = .ok (.putfield 18, 3) := by decide +kernel
theorem dX0_init_28 : decode cX0_init 28 = .ok (.aload_n 0, 1) := by decide +kernel
theorem dX0_init_29 : decode cX0_init 29 = .ok (.bipush 60, 2) := by decide +kernel
theorem dX0_init_31 : decode cX0_init 31 = .ok (.newarray .int, 2) := by decide +kernel
theorem dX0_init_33 : decode cX0_init 33 = .ok (.putfield 21, 3) := by decide +kernel
theorem dX0_init_36 : decode cX0_init 36 = .ok (.aload_n 0, 1) := by decide +kernel
theorem dX0_init_37 : decode cX0_init 37 = .ok (.sipush 720, 3) := by decide +kernel
theorem dX0_init_40 : decode cX0_init 40 = .ok (.newarray .int, 2) := by decide +kernel
theorem dX0_init_42 : decode cX0_init 42 = .ok (.putfield 24, 3) := by decide +kernel
theorem dX0_init_45 : decode cX0_init 45 = .ok (.return_, 1) := by decide +kernel
theorem dX0_has_0 : decode cX0_has 0 = .ok (.iload_n 1, 1) := by decide +kernel
theorem dX0_has_1 : decode cX0_has 1 = .ok (.iconst 0, 1) := by decide +kernel
theorem dX0_has_2 : decode cX0_has 2 = .ok (.aload_n 0, 1) := by decide +kernel
theorem dX0_has_3 : decode cX0_has 3 = .ok (.getfield 27, 3) := by decide +kernel
theorem dX0_has_6 : decode cX0_has 6 = .ok (.iconst 1, 1) := by decide +kernel
theorem dX0_has_7 : decode cX0_has 7 = .ok (.isub, 1) := by decide +kernel
theorem dX0_has_8 : decode cX0_has 8 = .ok (.invokestatic 31, 3) := by decide +kernel
theorem dX0_has_11 : decode cX0_has 11 = .ok (.ireturn, 1) := by decide +kernel
theorem dX0_take_0 : decode cX0_take 0 = .ok (.aload_n 0, 1) := by decide +kernel
theorem dX0_take_1 : decode cX0_take 1 = .ok (.getfield 27, 3) := by decide +kernel
theorem dX0_take_4 : decode cX0_take 4 = .ok (.bipush 60, 2) := by decide +kernel
theorem dX0_take_6 : decode cX0_take 6 = .ok (.if_icmp .lt 5, 3) := by decide +kernel
theorem dX0_take_9 : decode cX0_take 9 = .ok (.iconst (-1), 1) := by decide +kernel
theorem dX0_take_10 : decode cX0_take 10 = .ok (.ireturn, 1) := by decide +kernel
theorem dX0_take_11 : decode cX0_take 11 = .ok (.aload_n 0, 1) := by decide +kernel
theorem dX0_take_12 : decode cX0_take 12 = .ok (.getfield 9, 3) := by decide +kernel
theorem dX0_take_15 : decode cX0_take 15 = .ok (.aload_n 0, 1) := by decide +kernel
theorem dX0_take_16 : decode cX0_take 16 = .ok (.getfield 27, 3) := by decide +kernel
theorem dX0_take_19 : decode cX0_take 19 = .ok (.iload_n 1, 1) := by decide +kernel
theorem dX0_take_20 : decode cX0_take 20 = .ok (.iastore, 1) := by decide +kernel
theorem dX0_take_21 : decode cX0_take 21 = .ok (.aload_n 0, 1) := by decide +kernel
theorem dX0_take_22 : decode cX0_take 22 = .ok (.getfield 15, 3) := by decide +kernel
theorem dX0_take_25 : decode cX0_take 25 = .ok (.aload_n 0, 1) := by decide +kernel
theorem dX0_take_26 : decode cX0_take 26 = .ok (.getfield 27, 3) := by decide +kernel
theorem dX0_take_29 : decode cX0_take 29 = .ok (.iload_n 2, 1) := by decide +kernel
theorem dX0_take_30 : decode cX0_take 30 = .ok (.iastore, 1) := by decide +kernel
theorem dX0_take_31 : decode cX0_take 31 = .ok (.aload_n 0, 1) := by decide +kernel
theorem dX0_take_32 : decode cX0_take 32 = .ok (.getfield 18, 3) := by decide +kernel
theorem dX0_take_35 : decode cX0_take 35 = .ok (.aload_n 0, 1) := by decide +kernel
theorem dX0_take_36 : decode cX0_take 36 = .ok (.getfield 27, 3) := by decide +kernel
theorem dX0_take_39 : decode cX0_take 39 = .ok (.iload_n 3, 1) := by decide +kernel
theorem dX0_take_40 : decode cX0_take 40 = .ok (.iastore, 1) := by decide +kernel
theorem dX0_take_41 : decode cX0_take 41 = .ok (.aload_n 0, 1) := by decide +kernel
theorem dX0_take_42 : decode cX0_take 42 = .ok (.getfield 21, 3) := by decide +kernel
theorem dX0_take_45 : decode cX0_take 45 = .ok (.aload_n 0, 1) := by decide +kernel
theorem dX0_take_46 : decode cX0_take 46 = .ok (.getfield 27, 3) := by decide +kernel
theorem dX0_take_49 : decode cX0_take 49 = .ok (.iload 4, 2) := by decide +kernel
theorem dX0_take_51 : decode cX0_take 51 = .ok (.iastore, 1) := by decide +kernel
theorem dX0_take_52 : decode cX0_take 52 = .ok (.aload_n 0, 1) := by decide +kernel
theorem dX0_take_53 : decode cX0_take 53 = .ok (.dup, 1) := by decide +kernel
theorem dX0_take_54 : decode cX0_take 54 = .ok (.getfield 27, 3) := by decide +kernel
theorem dX0_take_57 : decode cX0_take 57 = .ok (.dup_x1, 1) := by decide +kernel
theorem dX0_take_58 : decode cX0_take 58 = .ok (.iconst 1, 1) := by decide +kernel
theorem dX0_take_59 : decode cX0_take 59 = .ok (.iadd, 1) := by decide +kernel
theorem dX0_take_60 : decode cX0_take 60 = .ok (.putfield 27, 3) := by decide +kernel
theorem dX0_take_63 : decode cX0_take 63 = .ok (.ireturn, 1) := by decide +kernel
theorem dX0_fillFrom_0 : decode cX0_fillFrom 0 = .ok (.iconst 0, 1) := by decide +kernel
theorem dX0_fillFrom_1 : decode cX0_fillFrom 1 = .ok (.istore_n 3, 1) := by decide +kernel
theorem dX0_fillFrom_2 : decode cX0_fillFrom 2 = .ok (.iconst 0, 1) := by decide +kernel
theorem dX0_fillFrom_3 : decode cX0_fillFrom 3 = .ok (.istore 4, 2) := by decide +kernel
theorem dX0_fillFrom_5 : decode cX0_fillFrom 5 = .ok (.iload 4, 2) := by decide +kernel
theorem dX0_fillFrom_7 : decode cX0_fillFrom 7 = .ok (.aload_n 1, 1) := by decide +kernel
theorem dX0_fillFrom_8 : decode cX0_fillFrom 8 = .ok (.getfield 35, 3) := by decide +kernel
theorem dX0_fillFrom_11 : decode cX0_fillFrom 11 = .ok (.if_icmp .ge 102, 3) := by decide +kernel
theorem dX0_fillFrom_14 : decode cX0_fillFrom 14 = .ok (.aload_n 0, 1) := by decide +kernel
theorem dX0_fillFrom_15 : decode cX0_fillFrom 15 = .ok (.getfield 15, 3) := by decide +kernel
theorem dX0_fillFrom_18 : decode cX0_fillFrom 18 = .ok (.iload_n 2, 1) := by decide +kernel
theorem dX0_fillFrom_19 : decode cX0_fillFrom 19 = .ok (.iaload, 1) := by decide +kernel
theorem dX0_fillFrom_20 : decode cX0_fillFrom 20 = .ok (.ifCond .le 93, 3) := by decide +kernel
theorem dX0_fillFrom_23 : decode cX0_fillFrom 23 = .ok (.aload_n 1, 1) := by decide +kernel
theorem dX0_fillFrom_24 : decode cX0_fillFrom 24 = .ok (.getfield 38, 3) := by decide +kernel
theorem dX0_fillFrom_27 : decode cX0_fillFrom 27 = .ok (.iload 4, 2) := by decide +kernel
theorem dX0_fillFrom_29 : decode cX0_fillFrom 29 = .ok (.iaload, 1) := by decide +kernel
theorem dX0_fillFrom_30 : decode cX0_fillFrom 30 = .ok (.aload_n 0, 1) := by decide +kernel
theorem dX0_fillFrom_31 : decode cX0_fillFrom 31 = .ok (.getfield 9, 3) := by decide +kernel
theorem dX0_fillFrom_34 : decode cX0_fillFrom 34 = .ok (.iload_n 2, 1) := by decide +kernel
theorem dX0_fillFrom_35 : decode cX0_fillFrom 35 = .ok (.iaload, 1) := by decide +kernel
theorem dX0_fillFrom_36 : decode cX0_fillFrom 36 = .ok (.if_icmp .ne 71, 3) := by decide +kernel
theorem dX0_fillFrom_39 : decode cX0_fillFrom 39 = .ok (.aload_n 0, 1) := by decide +kernel
theorem dX0_fillFrom_40 : decode cX0_fillFrom 40 = .ok (.getfield 15, 3) := by decide +kernel
theorem dX0_fillFrom_43 : decode cX0_fillFrom 43 = .ok (.iload_n 2, 1) := by decide +kernel
theorem dX0_fillFrom_44 : decode cX0_fillFrom 44 = .ok (.iaload, 1) := by decide +kernel
theorem dX0_fillFrom_45 : decode cX0_fillFrom 45 = .ok (.aload_n 1, 1) := by decide +kernel
theorem dX0_fillFrom_46 : decode cX0_fillFrom 46 = .ok (.getfield 39, 3) := by decide +kernel
theorem dX0_fillFrom_49 : decode cX0_fillFrom 49 = .ok (.iload 4, 2) := by decide +kernel
theorem dX0_fillFrom_51 : decode cX0_fillFrom 51 = .ok (.iaload, 1) := by decide +kernel
theorem dX0_fillFrom_52 : decode cX0_fillFrom 52 = .ok (.invokestatic 42, 3) := by decide +kernel
theorem dX0_fillFrom_55 : decode cX0_fillFrom 55 = .ok (.istore 5, 2) := by decide +kernel
theorem dX0_fillFrom_57 : decode cX0_fillFrom 57 = .ok (.aload_n 1, 1) := by decide +kernel
theorem dX0_fillFrom_58 : decode cX0_fillFrom 58 = .ok (.getfield 39, 3) := by decide +kernel
theorem dX0_fillFrom_61 : decode cX0_fillFrom 61 = .ok (.iload 4, 2) := by decide +kernel
theorem dX0_fillFrom_63 : decode cX0_fillFrom 63 = .ok (.dup2, 1) := by decide +kernel
theorem dX0_fillFrom_64 : decode cX0_fillFrom 64 = .ok (.iaload, 1) := by decide +kernel
theorem dX0_fillFrom_65 : decode cX0_fillFrom 65 = .ok (.iload 5, 2) := by decide +kernel
theorem dX0_fillFrom_67 : decode cX0_fillFrom 67 = .ok (.isub, 1) := by decide +kernel
theorem dX0_fillFrom_68 : decode cX0_fillFrom 68 = .ok (.iastore, 1) := by decide +kernel
theorem dX0_fillFrom_69 : decode cX0_fillFrom 69 = .ok (.aload_n 0, 1) := by decide +kernel
theorem dX0_fillFrom_70 : decode cX0_fillFrom 70 = .ok (.getfield 15, 3) := by decide +kernel
theorem dX0_fillFrom_73 : decode cX0_fillFrom 73 = .ok (.iload_n 2, 1) := by decide +kernel
theorem dX0_fillFrom_74 : decode cX0_fillFrom 74 = .ok (.dup2, 1) := by decide +kernel
theorem dX0_fillFrom_75 : decode cX0_fillFrom 75 = .ok (.iaload, 1) := by decide +kernel
theorem dX0_fillFrom_76 : decode cX0_fillFrom 76 = .ok (.iload 5, 2) := by decide +kernel
theorem dX0_fillFrom_78 : decode cX0_fillFrom 78 = .ok (.isub, 1) := by decide +kernel
theorem dX0_fillFrom_79 : decode cX0_fillFrom 79 = .ok (.iastore, 1) := by decide +kernel
theorem dX0_fillFrom_80 : decode cX0_fillFrom 80 = .ok (.aload_n 0, 1) := by decide +kernel
theorem dX0_fillFrom_81 : decode cX0_fillFrom 81 = .ok (.getfield 24, 3) := by decide +kernel
theorem dX0_fillFrom_84 : decode cX0_fillFrom 84 = .ok (.iload_n 2, 1) := by decide +kernel
theorem dX0_fillFrom_85 : decode cX0_fillFrom 85 = .ok (.bipush 12, 2) := by decide +kernel
theorem dX0_fillFrom_87 : decode cX0_fillFrom 87 = .ok (.imul, 1) := by decide +kernel
theorem dX0_fillFrom_88 : decode cX0_fillFrom 88 = .ok (.aload_n 1, 1) := by decide +kernel
theorem dX0_fillFrom_89 : decode cX0_fillFrom 89 = .ok (.getfield 48, 3) := by decide +kernel
theorem dX0_fillFrom_92 : decode cX0_fillFrom 92 = .ok (.iload 4, 2) := by decide +kernel
theorem dX0_fillFrom_94 : decode cX0_fillFrom 94 = .ok (.iaload, 1) := by decide +kernel
theorem dX0_fillFrom_95 : decode cX0_fillFrom 95 = .ok (.iadd, 1) := by decide +kernel
theorem dX0_fillFrom_96 : decode cX0_fillFrom 96 = .ok (.dup2, 1) := by decide +kernel
theorem dX0_fillFrom_97 : decode cX0_fillFrom 97 = .ok (.iaload, 1) := by decide +kernel
theorem dX0_fillFrom_98 : decode cX0_fillFrom 98 = .ok (.iload 5, 2) := by decide +kernel
theorem dX0_fillFrom_100 : decode cX0_fillFrom 100 = .ok (.iadd, 1) := by decide +kernel
theorem dX0_fillFrom_101 : decode cX0_fillFrom 101 = .ok (.iastore, 1) := by decide +kernel
theorem dX0_fillFrom_102 : decode cX0_fillFrom 102 = .ok (.iload_n 3, 1) := by decide +kernel
theorem dX0_fillFrom_103 : decode cX0_fillFrom 103 = .ok (.iload 5, 2) := by decide +kernel
theorem dX0_fillFrom_105 : decode cX0_fillFrom 105 = .ok (.iadd, 1) := by decide +kernel
theorem dX0_fillFrom_106 : decode cX0_fillFrom 106 = .ok (.istore_n 3, 1) := by decide +kernel
theorem dX0_fillFrom_107 : decode cX0_fillFrom 107 = .ok (.iinc 4 1, 3) := by decide +kernel
theorem dX0_fillFrom_110 : decode cX0_fillFrom 110 = .ok (.goto (-105), 3) := by decide +kernel
theorem dX0_fillFrom_113 : decode cX0_fillFrom 113 = .ok (.aload_n 0, 1) := by decide +kernel
theorem dX0_fillFrom_114 : decode cX0_fillFrom 114 = .ok (.dup, 1) := by decide +kernel
theorem dX0_fillFrom_115 : decode cX0_fillFrom 115 = .ok (.getfield 49, 3) := by decide +kernel
theorem dX0_fillFrom_118 : decode cX0_fillFrom 118 = .ok (.iload_n 3, 1) := by decide +kernel
theorem dX0_fillFrom_119 : decode cX0_fillFrom 119 = .ok (.iadd, 1) := by decide +kernel
theorem dX0_fillFrom_120 : decode cX0_fillFrom 120 = .ok (.putfield 49, 3) := by decide +kernel
theorem dX0_fillFrom_123 : decode cX0_fillFrom 123 = .ok (.iload_n 3, 1) := by decide +kernel
theorem dX0_fillFrom_124 : decode cX0_fillFrom 124 = .ok (.ireturn, 1) := by decide +kernel
theorem dX0_missingBy_0 : decode cX0_missingBy 0 = .ok (.iconst 0, 1) := by decide +kernel
theorem dX0_missingBy_1 : decode cX0_missingBy 1 = .ok (.istore_n 3, 1) := by decide +kernel
theorem dX0_missingBy_2 : decode cX0_missingBy 2 = .ok (.iconst 0, 1) := by decide +kernel
theorem dX0_missingBy_3 : decode cX0_missingBy 3 = .ok (.istore 4, 2) := by decide +kernel
theorem dX0_missingBy_5 : decode cX0_missingBy 5 = .ok (.iload 4, 2) := by decide +kernel
theorem dX0_missingBy_7 : decode cX0_missingBy 7 = .ok (.aload_n 0, 1) := by decide +kernel
theorem dX0_missingBy_8 : decode cX0_missingBy 8 = .ok (.getfield 27, 3) := by decide +kernel
theorem dX0_missingBy_11 : decode cX0_missingBy 11 = .ok (.if_icmp .ge 52, 3) := by decide +kernel
theorem dX0_missingBy_14 : decode cX0_missingBy 14 = .ok (.aload_n 0, 1) := by decide +kernel
theorem dX0_missingBy_15 : decode cX0_missingBy 15 = .ok (.getfield 9, 3) := by decide +kernel
theorem dX0_missingBy_18 : decode cX0_missingBy 18 = .ok (.iload 4, 2) := by decide +kernel
theorem dX0_missingBy_20 : decode cX0_missingBy 20 = .ok (.iaload, 1) := by decide +kernel
theorem dX0_missingBy_21 : decode cX0_missingBy 21 = .ok (.iload_n 1, 1) := by decide +kernel
theorem dX0_missingBy_22 : decode cX0_missingBy 22 = .ok (.if_icmp .ne 35, 3) := by decide +kernel
theorem dX0_missingBy_25 : decode cX0_missingBy 25 = .ok (.aload_n 0, 1) := by decide +kernel
theorem dX0_missingBy_26 : decode cX0_missingBy 26 = .ok (.getfield 21, 3) := by decide +kernel
theorem dX0_missingBy_29 : decode cX0_missingBy 29 = .ok (.iload 4, 2) := by decide +kernel
theorem dX0_missingBy_31 : decode cX0_missingBy 31 = .ok (.iaload, 1) := by decide +kernel
theorem dX0_missingBy_32 : decode cX0_missingBy 32 = .ok (.iload_n 2, 1) := by decide +kernel
theorem dX0_missingBy_33 : decode cX0_missingBy 33 = .ok (.if_icmp .gt 24, 3) := by decide +kernel
theorem dX0_missingBy_36 : decode cX0_missingBy 36 = .ok (.aload_n 0, 1) := by decide +kernel
theorem dX0_missingBy_37 : decode cX0_missingBy 37 = .ok (.getfield 18, 3) := by decide +kernel
theorem dX0_missingBy_40 : decode cX0_missingBy 40 = .ok (.iload 4, 2) := by decide +kernel
theorem dX0_missingBy_42 : decode cX0_missingBy 42 = .ok (.iaload, 1) := by decide +kernel
theorem dX0_missingBy_43 : decode cX0_missingBy 43 = .ok (.iload_n 2, 1) := by decide +kernel
theorem dX0_missingBy_44 : decode cX0_missingBy 44 = .ok (.if_icmp .gt 13, 3) := by decide +kernel
theorem dX0_missingBy_47 : decode cX0_missingBy 47 = .ok (.iload_n 3, 1) := by decide +kernel
theorem dX0_missingBy_48 : decode cX0_missingBy 48 = .ok (.aload_n 0, 1) := by decide +kernel
theorem dX0_missingBy_49 : decode cX0_missingBy 49 = .ok (.getfield 15, 3) := by decide +kernel
theorem dX0_missingBy_52 : decode cX0_missingBy 52 = .ok (.iload 4, 2) := by decide +kernel
theorem dX0_missingBy_54 : decode cX0_missingBy 54 = .ok (.iaload, 1) := by decide +kernel
theorem dX0_missingBy_55 : decode cX0_missingBy 55 = .ok (.iadd, 1) := by decide +kernel
theorem dX0_missingBy_56 : decode cX0_missingBy 56 = .ok (.istore_n 3, 1) := by decide +kernel
theorem dX0_missingBy_57 : decode cX0_missingBy 57 = .ok (.iinc 4 1, 3) := by decide +kernel
theorem dX0_missingBy_60 : decode cX0_missingBy 60 = .ok (.goto (-55), 3) := by decide +kernel
theorem dX0_missingBy_63 : decode cX0_missingBy 63 = .ok (.iload_n 3, 1) := by decide +kernel
theorem dX0_missingBy_64 : decode cX0_missingBy 64 = .ok (.ireturn, 1) := by decide +kernel
theorem dX0_cameFrom_0 : decode cX0_cameFrom 0 = .ok (.aload_n 0, 1) := by decide +kernel
theorem dX0_cameFrom_1 : decode cX0_cameFrom 1 = .ok (.getfield 24, 3) := by decide +kernel
theorem dX0_cameFrom_4 : decode cX0_cameFrom 4 = .ok (.iload_n 1, 1) := by decide +kernel
theorem dX0_cameFrom_5 : decode cX0_cameFrom 5 = .ok (.bipush 12, 2) := by decide +kernel
theorem dX0_cameFrom_7 : decode cX0_cameFrom 7 = .ok (.imul, 1) := by decide +kernel
theorem dX0_cameFrom_8 : decode cX0_cameFrom 8 = .ok (.iload_n 2, 1) := by decide +kernel
theorem dX0_cameFrom_9 : decode cX0_cameFrom 9 = .ok (.iadd, 1) := by decide +kernel
theorem dX0_cameFrom_10 : decode cX0_cameFrom 10 = .ok (.iaload, 1) := by decide +kernel
theorem dX0_cameFrom_11 : decode cX0_cameFrom 11 = .ok (.ireturn, 1) := by decide +kernel
theorem dX1_init_0 : decode cX1_init 0 = .ok (.aload_n 0, 1) := by decide +kernel
theorem dX1_init_1 : decode cX1_init 1 = .ok (.invokespecial 3, 3) := by decide +kernel
theorem dX1_init_4 : decode cX1_init 4 = .ok (.aload_n 0, 1) := by decide +kernel
theorem dX1_init_5 : decode cX1_init 5 = .ok (.bipush 12, 2) := by decide +kernel
theorem dX1_init_7 : decode cX1_init 7 = .ok (.newarray .int, 2) := by decide +kernel
theorem dX1_init_9 : decode cX1_init 9 = .ok (.putfield 9, 3) := by decide +kernel
theorem dX1_init_12 : decode cX1_init 12 = .ok (.aload_n 0, 1) := by decide +kernel
theorem dX1_init_13 : decode cX1_init 13 = .ok (.bipush 12, 2) := by decide +kernel
theorem dX1_init_15 : decode cX1_init 15 = .ok (.newarray .int, 2) := by decide +kernel
theorem dX1_init_17 : decode cX1_init 17 = .ok (.putfield 15, 3) := by decide +kernel
theorem dX1_init_20 : decode cX1_init 20 = .ok (.return_, 1) := by decide +kernel
theorem dX1_has_0 : decode cX1_has 0 = .ok (.iload_n 1, 1) := by decide +kernel
theorem dX1_has_1 : decode cX1_has 1 = .ok (.iconst 0, 1) := by decide +kernel
theorem dX1_has_2 : decode cX1_has 2 = .ok (.aload_n 0, 1) := by decide +kernel
theorem dX1_has_3 : decode cX1_has 3 = .ok (.getfield 18, 3) := by decide +kernel
theorem dX1_has_6 : decode cX1_has 6 = .ok (.iconst 1, 1) := by decide +kernel
theorem dX1_has_7 : decode cX1_has 7 = .ok (.isub, 1) := by decide +kernel
theorem dX1_has_8 : decode cX1_has 8 = .ok (.invokestatic 22, 3) := by decide +kernel
theorem dX1_has_11 : decode cX1_has 11 = .ok (.ireturn, 1) := by decide +kernel
theorem dX1_lay_0 : decode cX1_lay 0 = .ok (.aload_n 0, 1) := by decide +kernel
theorem dX1_lay_1 : decode cX1_lay 1 = .ok (.getfield 18, 3) := by decide +kernel
theorem dX1_lay_4 : decode cX1_lay 4 = .ok (.bipush 12, 2) := by decide +kernel
theorem dX1_lay_6 : decode cX1_lay 6 = .ok (.if_icmp .lt 5, 3) := by decide +kernel
theorem dX1_lay_9 : decode cX1_lay 9 = .ok (.iconst (-1), 1) := by decide +kernel
theorem dX1_lay_10 : decode cX1_lay 10 = .ok (.ireturn, 1) := by decide +kernel
theorem dX1_lay_11 : decode cX1_lay 11 = .ok (.aload_n 0, 1) := by decide +kernel
theorem dX1_lay_12 : decode cX1_lay 12 = .ok (.getfield 9, 3) := by decide +kernel
theorem dX1_lay_15 : decode cX1_lay 15 = .ok (.aload_n 0, 1) := by decide +kernel
theorem dX1_lay_16 : decode cX1_lay 16 = .ok (.getfield 18, 3) := by decide +kernel
theorem dX1_lay_19 : decode cX1_lay 19 = .ok (.iload_n 1, 1) := by decide +kernel
theorem dX1_lay_20 : decode cX1_lay 20 = .ok (.iastore, 1) := by decide +kernel
theorem dX1_lay_21 : decode cX1_lay 21 = .ok (.aload_n 0, 1) := by decide +kernel
theorem dX1_lay_22 : decode cX1_lay 22 = .ok (.getfield 15, 3) := by decide +kernel
theorem dX1_lay_25 : decode cX1_lay 25 = .ok (.aload_n 0, 1) := by decide +kernel
theorem dX1_lay_26 : decode cX1_lay 26 = .ok (.getfield 18, 3) := by decide +kernel
theorem dX1_lay_29 : decode cX1_lay 29 = .ok (.iload_n 2, 1) := by decide +kernel
theorem dX1_lay_30 : decode cX1_lay 30 = .ok (.iastore, 1) := by decide +kernel
theorem dX1_lay_31 : decode cX1_lay 31 = .ok (.aload_n 0, 1) := by decide +kernel
theorem dX1_lay_32 : decode cX1_lay 32 = .ok (.dup, 1) := by decide +kernel
theorem dX1_lay_33 : decode cX1_lay 33 = .ok (.getfield 18, 3) := by decide +kernel
theorem dX1_lay_36 : decode cX1_lay 36 = .ok (.dup_x1, 1) := by decide +kernel
theorem dX1_lay_37 : decode cX1_lay 37 = .ok (.iconst 1, 1) := by decide +kernel
theorem dX1_lay_38 : decode cX1_lay 38 = .ok (.iadd, 1) := by decide +kernel
theorem dX1_lay_39 : decode cX1_lay 39 = .ok (.putfield 18, 3) := by decide +kernel
theorem dX1_lay_42 : decode cX1_lay 42 = .ok (.ireturn, 1) := by decide +kernel
theorem dX2_init_0 : decode cX2_init 0 = .ok (.aload_n 0, 1) := by decide +kernel
theorem dX2_init_1 : decode cX2_init 1 = .ok (.invokespecial 3, 3) := by decide +kernel
theorem dX2_init_4 : decode cX2_init 4 = .ok (.aload_n 0, 1) := by decide +kernel
theorem dX2_init_5 : decode cX2_init 5 = .ok (.bipush 25, 2) := by decide +kernel
theorem dX2_init_7 : decode cX2_init 7 = .ok (.newarray .int, 2) := by decide +kernel
theorem dX2_init_9 : decode cX2_init 9 = .ok (.putfield 9, 3) := by decide +kernel
theorem dX2_init_12 : decode cX2_init 12 = .ok (.aload_n 0, 1) := by decide +kernel
theorem dX2_init_13 : decode cX2_init 13 = .ok (.iconst 1, 1) := by decide +kernel
theorem dX2_init_14 : decode cX2_init 14 = .ok (.putfield 15, 3) := by decide +kernel
theorem dX2_init_17 : decode cX2_init 17 = .ok (.aload_n 0, 1) := by decide +kernel
theorem dX2_init_18 : decode cX2_init 18 = .ok (.iconst 5, 1) := by decide +kernel
theorem dX2_init_19 : decode cX2_init 19 = .ok (.putfield 19, 3) := by decide +kernel
theorem dX2_init_22 : decode cX2_init 22 = .ok (.return_, 1) := by decide +kernel
theorem dX2_freshFrom_0 : decode cX2_freshFrom 0 = .ok (.iload_n 2, 1) := by decide +kernel
theorem dX2_freshFrom_1 : decode cX2_freshFrom 1 = .ok (.iconst 0, 1) := by decide +kernel
theorem dX2_freshFrom_2 : decode cX2_freshFrom 2 = .ok (.bipush 24, 2) := by decide +kernel
theorem dX2_freshFrom_4 : decode cX2_freshFrom 4 = .ok (.invokestatic 22, 3) := by decide +kernel
theorem dX2_freshFrom_7 : decode cX2_freshFrom 7 = .ok (.ifCond .eq 17, 3) := by decide +kernel
theorem dX2_freshFrom_10 : decode cX2_freshFrom 10 = .ok (.iload_n 1, 1) := by decide +kernel
theorem dX2_freshFrom_11 : decode cX2_freshFrom 11 = .ok (.aload_n 0, 1) := by decide +kernel
theorem dX2_freshFrom_12 : decode cX2_freshFrom 12 = .ok (.getfield 9, 3) := by decide +kernel
theorem dX2_freshFrom_15 : decode cX2_freshFrom 15 = .ok (.iload_n 2, 1) := by decide +kernel
theorem dX2_freshFrom_16 : decode cX2_freshFrom 16 = .ok (.iaload, 1) := by decide +kernel
theorem dX2_freshFrom_17 : decode cX2_freshFrom 17 = .ok (.imul, 1) := by decide +kernel
theorem dX2_freshFrom_18 : decode cX2_freshFrom 18 = .ok (.bipush 100, 2) := by decide +kernel
theorem dX2_freshFrom_20 : decode cX2_freshFrom 20 = .ok (.idiv, 1) := by decide +kernel
theorem dX2_freshFrom_21 : decode cX2_freshFrom 21 = .ok (.goto 4, 3) := by decide +kernel
theorem dX2_freshFrom_24 : decode cX2_freshFrom 24 = .ok (.iconst 0, 1) := by decide +kernel
theorem dX2_freshFrom_25 : decode cX2_freshFrom 25 = .ok (.ireturn, 1) := by decide +kernel
theorem dX2_costOf_0 : decode cX2_costOf 0 = .ok (.iload_n 1, 1) := by decide +kernel
theorem dX2_costOf_1 : decode cX2_costOf 1 = .ok (.aload_n 0, 1) := by decide +kernel
theorem dX2_costOf_2 : decode cX2_costOf 2 = .ok (.getfield 19, 3) := by decide +kernel
theorem dX2_costOf_5 : decode cX2_costOf 5 = .ok (.imul, 1) := by decide +kernel
theorem dX2_costOf_6 : decode cX2_costOf 6 = .ok (.ireturn, 1) := by decide +kernel
theorem dX3_init_0 : decode cX3_init 0 = .ok (.aload_n 0, 1) := by decide +kernel
theorem dX3_init_1 : decode cX3_init 1 = .ok (.invokespecial 3, 3) := by decide +kernel
theorem dX3_init_4 : decode cX3_init 4 = .ok (.aload_n 0, 1) := by decide +kernel
theorem dX3_init_5 : decode cX3_init 5 = .ok (.sipush 468, 3) := by decide +kernel
theorem dX3_init_8 : decode cX3_init 8 = .ok (.newarray .int, 2) := by decide +kernel
theorem dX3_init_10 : decode cX3_init 10 = .ok (.putfield 9, 3) := by decide +kernel
theorem dX3_init_13 : decode cX3_init 13 = .ok (.aload_n 0, 1) := by decide +kernel
theorem dX3_init_14 : decode cX3_init 14 = .ok (.sipush 468, 3) := by decide +kernel
theorem dX3_init_17 : decode cX3_init 17 = .ok (.newarray .int, 2) := by decide +kernel
theorem dX3_init_19 : decode cX3_init 19 = .ok (.putfield 15, 3) := by decide +kernel
theorem dX3_init_22 : decode cX3_init 22 = .ok (.aload_n 0, 1) := by decide +kernel
theorem dX3_init_23 : decode cX3_init 23 = .ok (.sipush 468, 3) := by decide +kernel
theorem dX3_init_26 : decode cX3_init 26 = .ok (.newarray .int, 2) := by decide +kernel
theorem dX3_init_28 : decode cX3_init 28 = .ok (.putfield 18, 3) := by decide +kernel
theorem dX3_init_31 : decode cX3_init 31 = .ok (.return_, 1) := by decide +kernel
theorem dX3_store_0 : decode cX3_store 0 = .ok (.iload_n 3, 1) := by decide +kernel
theorem dX3_store_1 : decode cX3_store 1 = .ok (.iconst 1, 1) := by decide +kernel
theorem dX3_store_2 : decode cX3_store 2 = .ok (.if_icmp .lt 13, 3) := by decide +kernel
theorem dX3_store_5 : decode cX3_store 5 = .ok (.aload_n 0, 1) := by decide +kernel
theorem dX3_store_6 : decode cX3_store 6 = .ok (.getfield 21, 3) := by decide +kernel
theorem dX3_store_9 : decode cX3_store 9 = .ok (.sipush 468, 3) := by decide +kernel
theorem dX3_store_12 : decode cX3_store 12 = .ok (.if_icmp .lt 4, 3) := by decide +kernel
theorem dX3_store_15 : decode cX3_store 15 = .ok (.return_, 1) := by decide +kernel
theorem dX3_store_16 : decode cX3_store 16 = .ok (.aload_n 0, 1) := by decide +kernel
theorem dX3_store_17 : decode cX3_store 17 = .ok (.getfield 9, 3) := by decide +kernel
theorem dX3_store_20 : decode cX3_store 20 = .ok (.aload_n 0, 1) := by decide +kernel
theorem dX3_store_21 : decode cX3_store 21 = .ok (.getfield 21, 3) := by decide +kernel
theorem dX3_store_24 : decode cX3_store 24 = .ok (.iload_n 1, 1) := by decide +kernel
theorem dX3_store_25 : decode cX3_store 25 = .ok (.iastore, 1) := by decide +kernel
theorem dX3_store_26 : decode cX3_store 26 = .ok (.aload_n 0, 1) := by decide +kernel
theorem dX3_store_27 : decode cX3_store 27 = .ok (.getfield 15, 3) := by decide +kernel
theorem dX3_store_30 : decode cX3_store 30 = .ok (.aload_n 0, 1) := by decide +kernel
theorem dX3_store_31 : decode cX3_store 31 = .ok (.getfield 21, 3) := by decide +kernel
theorem dX3_store_34 : decode cX3_store 34 = .ok (.iload_n 2, 1) := by decide +kernel
theorem dX3_store_35 : decode cX3_store 35 = .ok (.iastore, 1) := by decide +kernel
theorem dX3_store_36 : decode cX3_store 36 = .ok (.aload_n 0, 1) := by decide +kernel
theorem dX3_store_37 : decode cX3_store 37 = .ok (.getfield 18, 3) := by decide +kernel
theorem dX3_store_40 : decode cX3_store 40 = .ok (.aload_n 0, 1) := by decide +kernel
theorem dX3_store_41 : decode cX3_store 41 = .ok (.getfield 21, 3) := by decide +kernel
theorem dX3_store_44 : decode cX3_store 44 = .ok (.iload_n 3, 1) := by decide +kernel
theorem dX3_store_45 : decode cX3_store 45 = .ok (.iastore, 1) := by decide +kernel
theorem dX3_store_46 : decode cX3_store 46 = .ok (.aload_n 0, 1) := by decide +kernel
theorem dX3_store_47 : decode cX3_store 47 = .ok (.dup, 1) := by decide +kernel
theorem dX3_store_48 : decode cX3_store 48 = .ok (.getfield 21, 3) := by decide +kernel
theorem dX3_store_51 : decode cX3_store 51 = .ok (.iconst 1, 1) := by decide +kernel
theorem dX3_store_52 : decode cX3_store 52 = .ok (.iadd, 1) := by decide +kernel
theorem dX3_store_53 : decode cX3_store 53 = .ok (.putfield 21, 3) := by decide +kernel
theorem dX3_store_56 : decode cX3_store 56 = .ok (.aload_n 0, 1) := by decide +kernel
theorem dX3_store_57 : decode cX3_store 57 = .ok (.dup, 1) := by decide +kernel
theorem dX3_store_58 : decode cX3_store 58 = .ok (.getfield 25, 3) := by decide +kernel
theorem dX3_store_61 : decode cX3_store 61 = .ok (.iload_n 3, 1) := by decide +kernel
theorem dX3_store_62 : decode cX3_store 62 = .ok (.iadd, 1) := by decide +kernel
theorem dX3_store_63 : decode cX3_store 63 = .ok (.putfield 25, 3) := by decide +kernel
theorem dX3_store_66 : decode cX3_store 66 = .ok (.return_, 1) := by decide +kernel
theorem dX3_lying_0 : decode cX3_lying 0 = .ok (.iconst 0, 1) := by decide +kernel
theorem dX3_lying_1 : decode cX3_lying 1 = .ok (.istore_n 3, 1) := by decide +kernel
theorem dX3_lying_2 : decode cX3_lying 2 = .ok (.iconst 0, 1) := by decide +kernel
theorem dX3_lying_3 : decode cX3_lying 3 = .ok (.istore 4, 2) := by decide +kernel
theorem dX3_lying_5 : decode cX3_lying 5 = .ok (.iload 4, 2) := by decide +kernel
theorem dX3_lying_7 : decode cX3_lying 7 = .ok (.aload_n 0, 1) := by decide +kernel
theorem dX3_lying_8 : decode cX3_lying 8 = .ok (.getfield 21, 3) := by decide +kernel
theorem dX3_lying_11 : decode cX3_lying 11 = .ok (.if_icmp .ge 46, 3) := by decide +kernel
theorem dX3_lying_14 : decode cX3_lying 14 = .ok (.aload_n 0, 1) := by decide +kernel
theorem dX3_lying_15 : decode cX3_lying 15 = .ok (.getfield 9, 3) := by decide +kernel
theorem dX3_lying_18 : decode cX3_lying 18 = .ok (.iload 4, 2) := by decide +kernel
theorem dX3_lying_20 : decode cX3_lying 20 = .ok (.iaload, 1) := by decide +kernel
theorem dX3_lying_21 : decode cX3_lying 21 = .ok (.iload_n 1, 1) := by decide +kernel
theorem dX3_lying_22 : decode cX3_lying 22 = .ok (.if_icmp .ne 29, 3) := by decide +kernel
theorem dX3_lying_25 : decode cX3_lying 25 = .ok (.iload_n 2, 1) := by decide +kernel
theorem dX3_lying_26 : decode cX3_lying 26 = .ok (.iconst (-1), 1) := by decide +kernel
theorem dX3_lying_27 : decode cX3_lying 27 = .ok (.if_icmp .eq 14, 3) := by decide +kernel
theorem dX3_lying_30 : decode cX3_lying 30 = .ok (.aload_n 0, 1) := by decide +kernel
theorem dX3_lying_31 : decode cX3_lying 31 = .ok (.getfield 15, 3) := by decide +kernel
theorem dX3_lying_34 : decode cX3_lying 34 = .ok (.iload 4, 2) := by decide +kernel
theorem dX3_lying_36 : decode cX3_lying 36 = .ok (.iaload, 1) := by decide +kernel
theorem dX3_lying_37 : decode cX3_lying 37 = .ok (.iload_n 2, 1) := by decide +kernel
theorem dX3_lying_38 : decode cX3_lying 38 = .ok (.if_icmp .ne 13, 3) := by decide +kernel
theorem dX3_lying_41 : decode cX3_lying 41 = .ok (.iload_n 3, 1) := by decide +kernel
theorem dX3_lying_42 : decode cX3_lying 42 = .ok (.aload_n 0, 1) := by decide +kernel
theorem dX3_lying_43 : decode cX3_lying 43 = .ok (.getfield 18, 3) := by decide +kernel
theorem dX3_lying_46 : decode cX3_lying 46 = .ok (.iload 4, 2) := by decide +kernel
theorem dX3_lying_48 : decode cX3_lying 48 = .ok (.iaload, 1) := by decide +kernel
theorem dX3_lying_49 : decode cX3_lying 49 = .ok (.iadd, 1) := by decide +kernel
theorem dX3_lying_50 : decode cX3_lying 50 = .ok (.istore_n 3, 1) := by decide +kernel
theorem dX3_lying_51 : decode cX3_lying 51 = .ok (.iinc 4 1, 3) := by decide +kernel
theorem dX3_lying_54 : decode cX3_lying 54 = .ok (.goto (-49), 3) := by decide +kernel
theorem dX3_lying_57 : decode cX3_lying 57 = .ok (.iload_n 3, 1) := by decide +kernel
theorem dX3_lying_58 : decode cX3_lying 58 = .ok (.ireturn, 1) := by decide +kernel
theorem dX4_init_0 : decode cX4_init 0 = .ok (.aload_n 0, 1) := by decide +kernel
theorem dX4_init_1 : decode cX4_init 1 = .ok (.invokespecial 3, 3) := by decide +kernel
theorem dX4_init_4 : decode cX4_init 4 = .ok (.aload_n 0, 1) := by decide +kernel
theorem dX4_init_5 : decode cX4_init 5 = .ok (.iconst 4, 1) := by decide +kernel
theorem dX4_init_6 : decode cX4_init 6 = .ok (.newarray .int, 2) := by decide +kernel
theorem dX4_init_8 : decode cX4_init 8 = .ok (.dup, 1) := by decide +kernel
theorem dX4_init_9 : decode cX4_init 9 = .ok (.iconst 0, 1) := by decide +kernel
theorem dX4_init_10 : decode cX4_init 10 = .ok (.bipush 100, 2) := by decide +kernel
theorem dX4_init_12 : decode cX4_init 12 = .ok (.iastore, 1) := by decide +kernel
theorem dX4_init_13 : decode cX4_init 13 = .ok (.dup, 1) := by decide +kernel
theorem dX4_init_14 : decode cX4_init 14 = .ok (.iconst 1, 1) := by decide +kernel
theorem dX4_init_15 : decode cX4_init 15 = .ok (.bipush 60, 2) := by decide +kernel
theorem dX4_init_17 : decode cX4_init 17 = .ok (.iastore, 1) := by decide +kernel
theorem dX4_init_18 : decode cX4_init 18 = .ok (.dup, 1) := by decide +kernel
theorem dX4_init_19 : decode cX4_init 19 = .ok (.iconst 2, 1) := by decide +kernel
theorem dX4_init_20 : decode cX4_init 20 = .ok (.bipush 35, 2) := by decide +kernel
theorem dX4_init_22 : decode cX4_init 22 = .ok (.iastore, 1) := by decide +kernel
theorem dX4_init_23 : decode cX4_init 23 = .ok (.dup, 1) := by decide +kernel
theorem dX4_init_24 : decode cX4_init 24 = .ok (.iconst 3, 1) := by decide +kernel
theorem dX4_init_25 : decode cX4_init 25 = .ok (.bipush 25, 2) := by decide +kernel
theorem dX4_init_27 : decode cX4_init 27 = .ok (.iastore, 1) := by decide +kernel
theorem dX4_init_28 : decode cX4_init 28 = .ok (.putfield 9, 3) := by decide +kernel
theorem dX4_init_31 : decode cX4_init 31 = .ok (.aload_n 0, 1) := by decide +kernel
theorem dX4_init_32 : decode cX4_init 32 = .ok (.iconst 4, 1) := by decide +kernel
theorem dX4_init_33 : decode cX4_init 33 = .ok (.newarray .int, 2) := by decide +kernel
theorem dX4_init_35 : decode cX4_init 35 = .ok (.putfield 15, 3) := by decide +kernel
theorem dX4_init_38 : decode cX4_init 38 = .ok (.aload_n 0, 1) := by decide +kernel
theorem dX4_init_39 : decode cX4_init 39 = .ok (.aload_n 1, 1) := by decide +kernel
theorem dX4_init_40 : decode cX4_init 40 = .ok (.putfield 18, 3) := by decide +kernel
theorem dX4_init_43 : decode cX4_init 43 = .ok (.return_, 1) := by decide +kernel
theorem dX4_turnTo_0 : decode cX4_turnTo 0 = .ok (.iconst 0, 1) := by decide +kernel
theorem dX4_turnTo_1 : decode cX4_turnTo 1 = .ok (.istore_n 3, 1) := by decide +kernel
theorem dX4_turnTo_2 : decode cX4_turnTo 2 = .ok (.iload_n 3, 1) := by decide +kernel
theorem dX4_turnTo_3 : decode cX4_turnTo 3 = .ok (.iconst 4, 1) := by decide +kernel
theorem dX4_turnTo_4 : decode cX4_turnTo 4 = .ok (.if_icmp .ge 25, 3) := by decide +kernel
theorem dX4_turnTo_7 : decode cX4_turnTo 7 = .ok (.aload_n 0, 1) := by decide +kernel
theorem dX4_turnTo_8 : decode cX4_turnTo 8 = .ok (.getfield 15, 3) := by decide +kernel
theorem dX4_turnTo_11 : decode cX4_turnTo 11 = .ok (.iload_n 3, 1) := by decide +kernel
theorem dX4_turnTo_12 : decode cX4_turnTo 12 = .ok (.aload_n 0, 1) := by decide +kernel
theorem dX4_turnTo_13 : decode cX4_turnTo 13 = .ok (.getfield 18, 3) := by decide +kernel
theorem dX4_turnTo_16 : decode cX4_turnTo 16 = .ok (.iload_n 3, 1) := by decide +kernel
theorem dX4_turnTo_17 : decode cX4_turnTo 17 = .ok (.iload_n 1, 1) := by decide +kernel
theorem dX4_turnTo_18 : decode cX4_turnTo 18 = .ok (.iload_n 2, 1) := by decide +kernel
theorem dX4_turnTo_19 : decode cX4_turnTo 19 = .ok (.invokevirtual 22, 3) := by decide +kernel
theorem dX4_turnTo_22 : decode cX4_turnTo 22 = .ok (.iastore, 1) := by decide +kernel
theorem dX4_turnTo_23 : decode cX4_turnTo 23 = .ok (.iinc 3 1, 3) := by decide +kernel
theorem dX4_turnTo_26 : decode cX4_turnTo 26 = .ok (.goto (-24), 3) := by decide +kernel
theorem dX4_turnTo_29 : decode cX4_turnTo 29 = .ok (.return_, 1) := by decide +kernel
theorem dX4_choose_0 : decode cX4_choose 0 = .ok (.aload_n 0, 1) := by decide +kernel
theorem dX4_choose_1 : decode cX4_choose 1 = .ok (.iconst (-1), 1) := by decide +kernel
theorem dX4_choose_2 : decode cX4_choose 2 = .ok (.putfield 28, 3) := by decide +kernel
theorem dX4_choose_5 : decode cX4_choose 5 = .ok (.iconst 0, 1) := by decide +kernel
theorem dX4_choose_6 : decode cX4_choose 6 = .ok (.istore_n 2, 1) := by decide +kernel
theorem dX4_choose_7 : decode cX4_choose 7 = .ok (.iload_n 2, 1) := by decide +kernel
theorem dX4_choose_8 : decode cX4_choose 8 = .ok (.iconst 4, 1) := by decide +kernel
theorem dX4_choose_9 : decode cX4_choose 9 = .ok (.if_icmp .ge 56, 3) := by decide +kernel
theorem dX4_choose_12 : decode cX4_choose 12 = .ok (.iload_n 1, 1) := by decide +kernel
theorem dX4_choose_13 : decode cX4_choose 13 = .ok (.aload_n 0, 1) := by decide +kernel
theorem dX4_choose_14 : decode cX4_choose 14 = .ok (.getfield 9, 3) := by decide +kernel
theorem dX4_choose_17 : decode cX4_choose 17 = .ok (.iload_n 2, 1) := by decide +kernel
theorem dX4_choose_18 : decode cX4_choose 18 = .ok (.iaload, 1) := by decide +kernel
theorem dX4_choose_19 : decode cX4_choose 19 = .ok (.imul, 1) := by decide +kernel
theorem dX4_choose_20 : decode cX4_choose 20 = .ok (.bipush 100, 2) := by decide +kernel
theorem dX4_choose_22 : decode cX4_choose 22 = .ok (.idiv, 1) := by decide +kernel
theorem dX4_choose_23 : decode cX4_choose 23 = .ok (.istore_n 3, 1) := by decide +kernel
theorem dX4_choose_24 : decode cX4_choose 24 = .ok (.iload_n 3, 1) := by decide +kernel
theorem dX4_choose_25 : decode cX4_choose 25 = .ok (.aload_n 0, 1) := by decide +kernel
theorem dX4_choose_26 : decode cX4_choose 26 = .ok (.getfield 15, 3) := by decide +kernel
theorem dX4_choose_29 : decode cX4_choose 29 = .ok (.iload_n 2, 1) := by decide +kernel
theorem dX4_choose_30 : decode cX4_choose 30 = .ok (.iaload, 1) := by decide +kernel
theorem dX4_choose_31 : decode cX4_choose 31 = .ok (.imul, 1) := by decide +kernel
theorem dX4_choose_32 : decode cX4_choose 32 = .ok (.istore 4, 2) := by decide +kernel
theorem dX4_choose_34 : decode cX4_choose 34 = .ok (.iload 4, 2) := by decide +kernel
theorem dX4_choose_36 : decode cX4_choose 36 = .ok (.aload_n 0, 1) := by decide +kernel
theorem dX4_choose_37 : decode cX4_choose 37 = .ok (.getfield 28, 3) := by decide +kernel
theorem dX4_choose_40 : decode cX4_choose 40 = .ok (.if_icmp .le 19, 3) := by decide +kernel
theorem dX4_choose_43 : decode cX4_choose 43 = .ok (.aload_n 0, 1) := by decide +kernel
theorem dX4_choose_44 : decode cX4_choose 44 = .ok (.iload_n 2, 1) := by decide +kernel
theorem dX4_choose_45 : decode cX4_choose 45 = .ok (.putfield 32, 3) := by decide +kernel
theorem dX4_choose_48 : decode cX4_choose 48 = .ok (.aload_n 0, 1) := by decide +kernel
theorem dX4_choose_49 : decode cX4_choose 49 = .ok (.iload_n 3, 1) := by decide +kernel
theorem dX4_choose_50 : decode cX4_choose 50 = .ok (.putfield 35, 3) := by decide +kernel
theorem dX4_choose_53 : decode cX4_choose 53 = .ok (.aload_n 0, 1) := by decide +kernel
theorem dX4_choose_54 : decode cX4_choose 54 = .ok (.iload 4, 2) := by decide +kernel
theorem dX4_choose_56 : decode cX4_choose 56 = .ok (.putfield 28, 3) := by decide +kernel
theorem dX4_choose_59 : decode cX4_choose 59 = .ok (.iinc 2 1, 3) := by decide +kernel
theorem dX4_choose_62 : decode cX4_choose 62 = .ok (.goto (-55), 3) := by decide +kernel
theorem dX4_choose_65 : decode cX4_choose 65 = .ok (.return_, 1) := by decide +kernel
theorem dX5_init_0 : decode cX5_init 0 = .ok (.aload_n 0, 1) := by decide +kernel
theorem dX5_init_1 : decode cX5_init 1 = .ok (.invokespecial 3, 3) := by decide +kernel
theorem dX5_init_4 : decode cX5_init 4 = .ok (.aload_n 0, 1) := by decide +kernel
theorem dX5_init_5 : decode cX5_init 5 = .ok (.bipush 20, 2) := by decide +kernel
theorem dX5_init_7 : decode cX5_init 7 = .ok (.newarray .int, 2) := by decide +kernel
theorem dX5_init_9 : decode cX5_init 9 = .ok (.putfield 9, 3) := by decide +kernel
theorem dX5_init_12 : decode cX5_init 12 = .ok (.aload_n 0, 1) := by decide +kernel
theorem dX5_init_13 : decode cX5_init 13 = .ok (.iconst (-1), 1) := by decide +kernel
theorem dX5_init_14 : decode cX5_init 14 = .ok (.putfield 15, 3) := by decide +kernel
theorem dX5_init_17 : decode cX5_init 17 = .ok (.aload_n 0, 1) := by decide +kernel
theorem dX5_init_18 : decode cX5_init 18 = .ok (.sipush 520, 3) := by decide +kernel
theorem dX5_init_21 : decode cX5_init 21 = .ok (.newarray .int, 2) := by decide +kernel
theorem dX5_init_23 : decode cX5_init 23 = .ok (.putfield 19, 3) := by decide +kernel
theorem dX5_init_26 : decode cX5_init 26 = .ok (.aload_n 0, 1) := by decide +kernel
theorem dX5_init_27 : decode cX5_init 27 = .ok (.bipush 26, 2) := by decide +kernel
theorem dX5_init_29 : decode cX5_init 29 = .ok (.newarray .long, 2) := by decide +kernel
theorem dX5_init_31 : decode cX5_init 31 = .ok (.putfield 22, 3) := by decide +kernel
theorem dX5_init_34 : decode cX5_init 34 = .ok (.aload_n 0, 1) := by decide +kernel
theorem dX5_init_35 : decode cX5_init 35 = .ok (.bipush 26, 2) := by decide +kernel
theorem dX5_init_37 : decode cX5_init 37 = .ok (.newarray .long, 2) := by decide +kernel
theorem dX5_init_39 : decode cX5_init 39 = .ok (.putfield 26, 3) := by decide +kernel
theorem dX5_init_42 : decode cX5_init 42 = .ok (.aload_n 0, 1) := by decide +kernel
theorem dX5_init_43 : decode cX5_init 43 = .ok (.bipush 26, 2) := by decide +kernel
theorem dX5_init_45 : decode cX5_init 45 = .ok (.newarray .long, 2) := by decide +kernel
theorem dX5_init_47 : decode cX5_init 47 = .ok (.putfield 29, 3) := by decide +kernel
theorem dX5_init_50 : decode cX5_init 50 = .ok (.aload_n 0, 1) := by decide +kernel
theorem dX5_init_51 : decode cX5_init 51 = .ok (.aload_n 1, 1) := by decide +kernel
theorem dX5_init_52 : decode cX5_init 52 = .ok (.putfield 32, 3) := by decide +kernel
theorem dX5_init_55 : decode cX5_init 55 = .ok (.aload_n 0, 1) := by decide +kernel
theorem dX5_init_56 : decode cX5_init 56 = .ok (.aload_n 2, 1) := by decide +kernel
theorem dX5_init_57 : decode cX5_init 57 = .ok (.putfield 36, 3) := by decide +kernel
theorem dX5_init_60 : decode cX5_init 60 = .ok (.aload_n 0, 1) := by decide +kernel
theorem dX5_init_61 : decode cX5_init 61 = .ok (.aload_n 3, 1) := by decide +kernel
theorem dX5_init_62 : decode cX5_init 62 = .ok (.putfield 40, 3) := by decide +kernel
theorem dX5_init_65 : decode cX5_init 65 = .ok (.return_, 1) := by decide +kernel
theorem dX5_make_0 : decode cX5_make 0 = .ok (.aload_n 0, 1) := by decide +kernel
theorem dX5_make_1 : decode cX5_make 1 = .ok (.iload 4, 2) := by decide +kernel
theorem dX5_make_3 : decode cX5_make 3 = .ok (.bipush 20, 2) := by decide +kernel
theorem dX5_make_5 : decode cX5_make 5 = .ok (.invokestatic 44, 3) := by decide +kernel
theorem dX5_make_8 : decode cX5_make 8 = .ok (.putfield 15, 3) := by decide +kernel
theorem dX5_make_11 : decode cX5_make 11 = .ok (.aload_n 0, 1) := by decide +kernel
theorem dX5_make_12 : decode cX5_make 12 = .ok (.getfield 26, 3) := by decide +kernel
theorem dX5_make_15 : decode cX5_make 15 = .ok (.lconst 0, 1) := by decide +kernel
theorem dX5_make_16 : decode cX5_make 16 = .ok (.invokestatic 50, 3) := by decide +kernel
theorem dX5_make_19 : decode cX5_make 19 = .ok (.aload_n 0, 1) := by decide +kernel
theorem dX5_make_20 : decode cX5_make 20 = .ok (.getfield 15, 3) := by decide +kernel
theorem dX5_make_23 : decode cX5_make 23 = .ok (.iconst 1, 1) := by decide +kernel
theorem dX5_make_24 : decode cX5_make 24 = .ok (.isub, 1) := by decide +kernel
theorem dX5_make_25 : decode cX5_make 25 = .ok (.istore 5, 2) := by decide +kernel
theorem dX5_make_27 : decode cX5_make 27 = .ok (.iload 5, 2) := by decide +kernel
theorem dX5_make_29 : decode cX5_make 29 = .ok (.ifCond .lt 80, 3) := by decide +kernel
theorem dX5_make_32 : decode cX5_make 32 = .ok (.aload_n 0, 1) := by decide +kernel
theorem dX5_make_33 : decode cX5_make 33 = .ok (.getfield 26, 3) := by decide +kernel
theorem dX5_make_36 : decode cX5_make 36 = .ok (.iconst 0, 1) := by decide +kernel
theorem dX5_make_37 : decode cX5_make 37 = .ok (.aload_n 0, 1) := by decide +kernel
theorem dX5_make_38 : decode cX5_make 38 = .ok (.getfield 29, 3) := by decide +kernel
theorem dX5_make_41 : decode cX5_make 41 = .ok (.iconst 0, 1) := by decide +kernel
theorem dX5_make_42 : decode cX5_make 42 = .ok (.bipush 26, 2) := by decide +kernel
theorem dX5_make_44 : decode cX5_make 44 = .ok (.invokestatic 56, 3) := by decide +kernel
theorem dX5_make_47 : decode cX5_make 47 = .ok (.aload_n 0, 1) := by decide +kernel
theorem dX5_make_48 : decode cX5_make 48 = .ok (.getfield 36, 3) := by decide +kernel
theorem dX5_make_51 : decode cX5_make 51 = .ok (.iload_n 3, 1) := by decide +kernel
theorem dX5_make_52 : decode cX5_make 52 = .ok (.iload 5, 2) := by decide +kernel
theorem dX5_make_54 : decode cX5_make 54 = .ok (.iadd, 1) := by decide +kernel
theorem dX5_make_55 : decode cX5_make 55 = .ok (.iload_n 3, 1) := by decide +kernel
theorem dX5_make_56 : decode cX5_make 56 = .ok (.invokevirtual 62, 3) := by decide +kernel
theorem dX5_make_59 : decode cX5_make 59 = .ok (.iconst 0, 1) := by decide +kernel
theorem dX5_make_60 : decode cX5_make 60 = .ok (.istore 6, 2) := by decide +kernel
theorem dX5_make_62 : decode cX5_make 62 = .ok (.iload 6, 2) := by decide +kernel
theorem dX5_make_64 : decode cX5_make 64 = .ok (.bipush 26, 2) := by decide +kernel
theorem dX5_make_66 : decode cX5_make 66 = .ok (.if_icmp .ge 23, 3) := by decide +kernel
theorem dX5_make_69 : decode cX5_make 69 = .ok (.aload_n 0, 1) := by decide +kernel
theorem dX5_make_70 : decode cX5_make 70 = .ok (.getfield 22, 3) := by decide +kernel
theorem dX5_make_73 : decode cX5_make 73 = .ok (.iload 6, 2) := by decide +kernel
theorem dX5_make_75 : decode cX5_make 75 = .ok (.aload_n 0, 1) := by decide +kernel
theorem dX5_make_76 : decode cX5_make 76 = .ok (.iload_n 1, 1) := by decide +kernel
theorem dX5_make_77 : decode cX5_make 77 = .ok (.iload 6, 2) := by decide +kernel
theorem dX5_make_79 : decode cX5_make 79 = .ok (.invokevirtual 68, 3) := by decide +kernel
theorem dX5_make_82 : decode cX5_make 82 = .ok (.lastore, 1) := by decide +kernel
theorem dX5_make_83 : decode cX5_make 83 = .ok (.iinc 6 1, 3) := by decide +kernel
theorem dX5_make_86 : decode cX5_make 86 = .ok (.goto (-24), 3) := by decide +kernel
theorem dX5_make_89 : decode cX5_make 89 = .ok (.aload_n 0, 1) := by decide +kernel
theorem dX5_make_90 : decode cX5_make 90 = .ok (.iload 5, 2) := by decide +kernel
theorem dX5_make_92 : decode cX5_make 92 = .ok (.aload_n 0, 1) := by decide +kernel
theorem dX5_make_93 : decode cX5_make 93 = .ok (.getfield 32, 3) := by decide +kernel
theorem dX5_make_96 : decode cX5_make 96 = .ok (.iload_n 1, 1) := by decide +kernel
theorem dX5_make_97 : decode cX5_make 97 = .ok (.invokevirtual 72, 3) := by decide +kernel
theorem dX5_make_100 : decode cX5_make 100 = .ok (.invokevirtual 78, 3) := by decide +kernel
theorem dX5_make_103 : decode cX5_make 103 = .ok (.iinc 5 (-1), 3) := by decide +kernel
theorem dX5_make_106 : decode cX5_make 106 = .ok (.goto (-79), 3) := by decide +kernel
theorem dX5_make_109 : decode cX5_make 109 = .ok (.iload_n 2, 1) := by decide +kernel
theorem dX5_make_110 : decode cX5_make 110 = .ok (.iconst 1, 1) := by decide +kernel
theorem dX5_make_111 : decode cX5_make 111 = .ok (.iadd, 1) := by decide +kernel
theorem dX5_make_112 : decode cX5_make 112 = .ok (.istore 5, 2) := by decide +kernel
theorem dX5_make_114 : decode cX5_make 114 = .ok (.aload_n 0, 1) := by decide +kernel
theorem dX5_make_115 : decode cX5_make 115 = .ok (.iload 5, 2) := by decide +kernel
theorem dX5_make_117 : decode cX5_make 117 = .ok (.invokevirtual 81, 3) := by decide +kernel
theorem dX5_make_120 : decode cX5_make 120 = .ok (.iload 5, 2) := by decide +kernel
theorem dX5_make_122 : decode cX5_make 122 = .ok (.iconst 0, 1) := by decide +kernel
theorem dX5_make_123 : decode cX5_make 123 = .ok (.bipush 25, 2) := by decide +kernel
theorem dX5_make_125 : decode cX5_make 125 = .ok (.invokestatic 85, 3) := by decide +kernel
theorem dX5_make_128 : decode cX5_make 128 = .ok (.ifCond .eq 13, 3) := by decide +kernel
theorem dX5_make_131 : decode cX5_make 131 = .ok (.aload_n 0, 1) := by decide +kernel
theorem dX5_make_132 : decode cX5_make 132 = .ok (.getfield 26, 3) := by decide +kernel
theorem dX5_make_135 : decode cX5_make 135 = .ok (.iload 5, 2) := by decide +kernel
theorem dX5_make_137 : decode cX5_make 137 = .ok (.laload, 1) := by decide +kernel
theorem dX5_make_138 : decode cX5_make 138 = .ok (.goto 6, 3) := by decide +kernel
theorem dX5_make_141 : decode cX5_make 141 = .ok (.ldc2_w 89, 3) := by decide +kernel
theorem dX5_make_144 : decode cX5_make 144 = .ok (.lreturn, 1) := by decide +kernel
theorem dX5_gainOf_0 : decode cX5_gainOf 0 = .ok (.iload_n 2, 1) := by decide +kernel
theorem dX5_gainOf_1 : decode cX5_gainOf 1 = .ok (.ifCond .ne 5, 3) := by decide +kernel
theorem dX5_gainOf_4 : decode cX5_gainOf 4 = .ok (.lconst 0, 1) := by decide +kernel
theorem dX5_gainOf_5 : decode cX5_gainOf 5 = .ok (.lreturn, 1) := by decide +kernel
theorem dX5_gainOf_6 : decode cX5_gainOf 6 = .ok (.iload_n 2, 1) := by decide +kernel
theorem dX5_gainOf_7 : decode cX5_gainOf 7 = .ok (.iconst 1, 1) := by decide +kernel
theorem dX5_gainOf_8 : decode cX5_gainOf 8 = .ok (.isub, 1) := by decide +kernel
theorem dX5_gainOf_9 : decode cX5_gainOf 9 = .ok (.istore_n 3, 1) := by decide +kernel
theorem dX5_gainOf_10 : decode cX5_gainOf 10 = .ok (.aload_n 0, 1) := by decide +kernel
theorem dX5_gainOf_11 : decode cX5_gainOf 11 = .ok (.getfield 36, 3) := by decide +kernel
theorem dX5_gainOf_14 : decode cX5_gainOf 14 = .ok (.aload_n 0, 1) := by decide +kernel
theorem dX5_gainOf_15 : decode cX5_gainOf 15 = .ok (.getfield 32, 3) := by decide +kernel
theorem dX5_gainOf_18 : decode cX5_gainOf 18 = .ok (.iload_n 1, 1) := by decide +kernel
theorem dX5_gainOf_19 : decode cX5_gainOf 19 = .ok (.iload_n 3, 1) := by decide +kernel
theorem dX5_gainOf_20 : decode cX5_gainOf 20 = .ok (.invokevirtual 91, 3) := by decide +kernel
theorem dX5_gainOf_23 : decode cX5_gainOf 23 = .ok (.invokevirtual 94, 3) := by decide +kernel
theorem dX5_gainOf_26 : decode cX5_gainOf 26 = .ok (.aload_n 0, 1) := by decide +kernel
theorem dX5_gainOf_27 : decode cX5_gainOf 27 = .ok (.getfield 40, 3) := by decide +kernel
theorem dX5_gainOf_30 : decode cX5_gainOf 30 = .ok (.iload_n 1, 1) := by decide +kernel
theorem dX5_gainOf_31 : decode cX5_gainOf 31 = .ok (.iload_n 3, 1) := by decide +kernel
theorem dX5_gainOf_32 : decode cX5_gainOf 32 = .ok (.aload_n 0, 1) := by decide +kernel
theorem dX5_gainOf_33 : decode cX5_gainOf 33 = .ok (.getfield 36, 3) := by decide +kernel
theorem dX5_gainOf_36 : decode cX5_gainOf 36 = .ok (.getfield 97, 3) := by decide +kernel
theorem dX5_gainOf_39 : decode cX5_gainOf 39 = .ok (.invokevirtual 100, 3) := by decide +kernel
theorem dX5_gainOf_42 : decode cX5_gainOf 42 = .ok (.lstore 4, 2) := by decide +kernel
theorem dX5_gainOf_44 : decode cX5_gainOf 44 = .ok (.aload_n 0, 1) := by decide +kernel
theorem dX5_gainOf_45 : decode cX5_gainOf 45 = .ok (.getfield 36, 3) := by decide +kernel
theorem dX5_gainOf_48 : decode cX5_gainOf 48 = .ok (.getfield 97, 3) := by decide +kernel
theorem dX5_gainOf_51 : decode cX5_gainOf 51 = .ok (.i2l, 1) := by decide +kernel
theorem dX5_gainOf_52 : decode cX5_gainOf 52 = .ok (.lload 4, 2) := by decide +kernel
theorem dX5_gainOf_54 : decode cX5_gainOf 54 = .ok (.lsub, 1) := by decide +kernel
theorem dX5_gainOf_55 : decode cX5_gainOf 55 = .ok (.aload_n 0, 1) := by decide +kernel
theorem dX5_gainOf_56 : decode cX5_gainOf 56 = .ok (.getfield 32, 3) := by decide +kernel
theorem dX5_gainOf_59 : decode cX5_gainOf 59 = .ok (.getfield 106, 3) := by decide +kernel
theorem dX5_gainOf_62 : decode cX5_gainOf 62 = .ok (.i2l, 1) := by decide +kernel
theorem dX5_gainOf_63 : decode cX5_gainOf 63 = .ok (.iload_n 1, 1) := by decide +kernel
theorem dX5_gainOf_64 : decode cX5_gainOf 64 = .ok (.i2l, 1) := by decide +kernel
theorem dX5_gainOf_65 : decode cX5_gainOf 65 = .ok (.lmul, 1) := by decide +kernel
theorem dX5_gainOf_66 : decode cX5_gainOf 66 = .ok (.lsub, 1) := by decide +kernel
theorem dX5_gainOf_67 : decode cX5_gainOf 67 = .ok (.lreturn, 1) := by decide +kernel
theorem dX5_decideYear_0 : decode cX5_decideYear 0 = .ok (.iconst 0, 1) := by decide +kernel
theorem dX5_decideYear_1 : decode cX5_decideYear 1 = .ok (.istore_n 3, 1) := by decide +kernel
theorem dX5_decideYear_2 : decode cX5_decideYear 2 = .ok (.iload_n 3, 1) := by decide +kernel
theorem dX5_decideYear_3 : decode cX5_decideYear 3 = .ok (.bipush 26, 2) := by decide +kernel
theorem dX5_decideYear_5 : decode cX5_decideYear 5 = .ok (.if_icmp .ge 100, 3) := by decide +kernel
theorem dX5_decideYear_8 : decode cX5_decideYear 8 = .ok (.iconst 0, 1) := by decide +kernel
theorem dX5_decideYear_9 : decode cX5_decideYear 9 = .ok (.istore 4, 2) := by decide +kernel
theorem dX5_decideYear_11 : decode cX5_decideYear 11 = .ok (.aload_n 0, 1) := by decide +kernel
theorem dX5_decideYear_12 : decode cX5_decideYear 12 = .ok (.iload_n 3, 1) := by decide +kernel
theorem dX5_decideYear_13 : decode cX5_decideYear 13 = .ok (.invokevirtual 109, 3) := by decide +kernel
theorem dX5_decideYear_16 : decode cX5_decideYear 16 = .ok (.lstore 5, 2) := by decide +kernel
theorem dX5_decideYear_18 : decode cX5_decideYear 18 = .ok (.iload_n 3, 1) := by decide +kernel
theorem dX5_decideYear_19 : decode cX5_decideYear 19 = .ok (.ifCond .eq 24, 3) := by decide +kernel
theorem dX5_decideYear_22 : decode cX5_decideYear 22 = .ok (.aload_n 0, 1) := by decide +kernel
theorem dX5_decideYear_23 : decode cX5_decideYear 23 = .ok (.iconst 0, 1) := by decide +kernel
theorem dX5_decideYear_24 : decode cX5_decideYear 24 = .ok (.invokevirtual 109, 3) := by decide +kernel
theorem dX5_decideYear_27 : decode cX5_decideYear 27 = .ok (.lload 5, 2) := by decide +kernel
theorem dX5_decideYear_29 : decode cX5_decideYear 29 = .ok (.lcmp, 1) := by decide +kernel
theorem dX5_decideYear_30 : decode cX5_decideYear 30 = .ok (.ifCond .le 13, 3) := by decide +kernel
theorem dX5_decideYear_33 : decode cX5_decideYear 33 = .ok (.iconst 1, 1) := by decide +kernel
theorem dX5_decideYear_34 : decode cX5_decideYear 34 = .ok (.istore 4, 2) := by decide +kernel
theorem dX5_decideYear_36 : decode cX5_decideYear 36 = .ok (.aload_n 0, 1) := by decide +kernel
theorem dX5_decideYear_37 : decode cX5_decideYear 37 = .ok (.iconst 0, 1) := by decide +kernel
theorem dX5_decideYear_38 : decode cX5_decideYear 38 = .ok (.invokevirtual 109, 3) := by decide +kernel
theorem dX5_decideYear_41 : decode cX5_decideYear 41 = .ok (.lstore 5, 2) := by decide +kernel
theorem dX5_decideYear_43 : decode cX5_decideYear 43 = .ok (.aload_n 0, 1) := by decide +kernel
theorem dX5_decideYear_44 : decode cX5_decideYear 44 = .ok (.iconst 1, 1) := by decide +kernel
theorem dX5_decideYear_45 : decode cX5_decideYear 45 = .ok (.invokevirtual 109, 3) := by decide +kernel
theorem dX5_decideYear_48 : decode cX5_decideYear 48 = .ok (.iload_n 2, 1) := by decide +kernel
theorem dX5_decideYear_49 : decode cX5_decideYear 49 = .ok (.i2l, 1) := by decide +kernel
theorem dX5_decideYear_50 : decode cX5_decideYear 50 = .ok (.lsub, 1) := by decide +kernel
theorem dX5_decideYear_51 : decode cX5_decideYear 51 = .ok (.lload 5, 2) := by decide +kernel
theorem dX5_decideYear_53 : decode cX5_decideYear 53 = .ok (.lcmp, 1) := by decide +kernel
theorem dX5_decideYear_54 : decode cX5_decideYear 54 = .ok (.ifCond .le 24, 3) := by decide +kernel
theorem dX5_decideYear_57 : decode cX5_decideYear 57 = .ok (.iload_n 3, 1) := by decide +kernel
theorem dX5_decideYear_58 : decode cX5_decideYear 58 = .ok (.ifCond .ne 7, 3) := by decide +kernel
theorem dX5_decideYear_61 : decode cX5_decideYear 61 = .ok (.iconst 2, 1) := by decide +kernel
theorem dX5_decideYear_62 : decode cX5_decideYear 62 = .ok (.goto 4, 3) := by decide +kernel
theorem dX5_decideYear_65 : decode cX5_decideYear 65 = .ok (.iconst 3, 1) := by decide +kernel
theorem dX5_decideYear_66 : decode cX5_decideYear 66 = .ok (.istore 4, 2) := by decide +kernel
theorem dX5_decideYear_68 : decode cX5_decideYear 68 = .ok (.aload_n 0, 1) := by decide +kernel
theorem dX5_decideYear_69 : decode cX5_decideYear 69 = .ok (.iconst 1, 1) := by decide +kernel
theorem dX5_decideYear_70 : decode cX5_decideYear 70 = .ok (.invokevirtual 109, 3) := by decide +kernel
theorem dX5_decideYear_73 : decode cX5_decideYear 73 = .ok (.iload_n 2, 1) := by decide +kernel
theorem dX5_decideYear_74 : decode cX5_decideYear 74 = .ok (.i2l, 1) := by decide +kernel
theorem dX5_decideYear_75 : decode cX5_decideYear 75 = .ok (.lsub, 1) := by decide +kernel
theorem dX5_decideYear_76 : decode cX5_decideYear 76 = .ok (.lstore 5, 2) := by decide +kernel
theorem dX5_decideYear_78 : decode cX5_decideYear 78 = .ok (.aload_n 0, 1) := by decide +kernel
theorem dX5_decideYear_79 : decode cX5_decideYear 79 = .ok (.getfield 19, 3) := by decide +kernel
theorem dX5_decideYear_82 : decode cX5_decideYear 82 = .ok (.iload_n 1, 1) := by decide +kernel
theorem dX5_decideYear_83 : decode cX5_decideYear 83 = .ok (.bipush 26, 2) := by decide +kernel
theorem dX5_decideYear_85 : decode cX5_decideYear 85 = .ok (.imul, 1) := by decide +kernel
theorem dX5_decideYear_86 : decode cX5_decideYear 86 = .ok (.iload_n 3, 1) := by decide +kernel
theorem dX5_decideYear_87 : decode cX5_decideYear 87 = .ok (.iadd, 1) := by decide +kernel
theorem dX5_decideYear_88 : decode cX5_decideYear 88 = .ok (.iload 4, 2) := by decide +kernel
theorem dX5_decideYear_90 : decode cX5_decideYear 90 = .ok (.iastore, 1) := by decide +kernel
theorem dX5_decideYear_91 : decode cX5_decideYear 91 = .ok (.aload_n 0, 1) := by decide +kernel
theorem dX5_decideYear_92 : decode cX5_decideYear 92 = .ok (.getfield 26, 3) := by decide +kernel
theorem dX5_decideYear_95 : decode cX5_decideYear 95 = .ok (.iload_n 3, 1) := by decide +kernel
theorem dX5_decideYear_96 : decode cX5_decideYear 96 = .ok (.lload 5, 2) := by decide +kernel
theorem dX5_decideYear_98 : decode cX5_decideYear 98 = .ok (.lastore, 1) := by decide +kernel
theorem dX5_decideYear_99 : decode cX5_decideYear 99 = .ok (.iinc 3 1, 3) := by decide +kernel
theorem dX5_decideYear_102 : decode cX5_decideYear 102 = .ok (.goto (-100), 3) := by decide +kernel
theorem dX5_decideYear_105 : decode cX5_decideYear 105 = .ok (.return_, 1) := by decide +kernel
theorem dX5_worthIn_0 : decode cX5_worthIn 0 = .ok (.aload_n 0, 1) := by decide +kernel
theorem dX5_worthIn_1 : decode cX5_worthIn 1 = .ok (.getfield 22, 3) := by decide +kernel
theorem dX5_worthIn_4 : decode cX5_worthIn 4 = .ok (.iload_n 1, 1) := by decide +kernel
theorem dX5_worthIn_5 : decode cX5_worthIn 5 = .ok (.laload, 1) := by decide +kernel
theorem dX5_worthIn_6 : decode cX5_worthIn 6 = .ok (.aload_n 0, 1) := by decide +kernel
theorem dX5_worthIn_7 : decode cX5_worthIn 7 = .ok (.getfield 29, 3) := by decide +kernel
theorem dX5_worthIn_10 : decode cX5_worthIn 10 = .ok (.iload_n 1, 1) := by decide +kernel
theorem dX5_worthIn_11 : decode cX5_worthIn 11 = .ok (.invokestatic 113, 3) := by decide +kernel
theorem dX5_worthIn_14 : decode cX5_worthIn 14 = .ok (.laload, 1) := by decide +kernel
theorem dX5_worthIn_15 : decode cX5_worthIn 15 = .ok (.ladd, 1) := by decide +kernel
theorem dX5_worthIn_16 : decode cX5_worthIn 16 = .ok (.lreturn, 1) := by decide +kernel
theorem dX5_follow_0 : decode cX5_follow 0 = .ok (.iload_n 1, 1) := by decide +kernel
theorem dX5_follow_1 : decode cX5_follow 1 = .ok (.istore_n 2, 1) := by decide +kernel
theorem dX5_follow_2 : decode cX5_follow 2 = .ok (.iconst 0, 1) := by decide +kernel
theorem dX5_follow_3 : decode cX5_follow 3 = .ok (.istore_n 3, 1) := by decide +kernel
theorem dX5_follow_4 : decode cX5_follow 4 = .ok (.iload_n 3, 1) := by decide +kernel
theorem dX5_follow_5 : decode cX5_follow 5 = .ok (.aload_n 0, 1) := by decide +kernel
theorem dX5_follow_6 : decode cX5_follow 6 = .ok (.getfield 15, 3) := by decide +kernel
theorem dX5_follow_9 : decode cX5_follow 9 = .ok (.if_icmp .ge 50, 3) := by decide +kernel
theorem dX5_follow_12 : decode cX5_follow 12 = .ok (.iload_n 2, 1) := by decide +kernel
theorem dX5_follow_13 : decode cX5_follow 13 = .ok (.iconst 0, 1) := by decide +kernel
theorem dX5_follow_14 : decode cX5_follow 14 = .ok (.bipush 25, 2) := by decide +kernel
theorem dX5_follow_16 : decode cX5_follow 16 = .ok (.invokestatic 85, 3) := by decide +kernel
theorem dX5_follow_19 : decode cX5_follow 19 = .ok (.ifCond .eq 40, 3) := by decide +kernel
theorem dX5_follow_22 : decode cX5_follow 22 = .ok (.aload_n 0, 1) := by decide +kernel
theorem dX5_follow_23 : decode cX5_follow 23 = .ok (.getfield 9, 3) := by decide +kernel
theorem dX5_follow_26 : decode cX5_follow 26 = .ok (.iload_n 3, 1) := by decide +kernel
theorem dX5_follow_27 : decode cX5_follow 27 = .ok (.aload_n 0, 1) := by decide +kernel
theorem dX5_follow_28 : decode cX5_follow 28 = .ok (.getfield 19, 3) := by decide +kernel
theorem dX5_follow_31 : decode cX5_follow 31 = .ok (.iload_n 3, 1) := by decide +kernel
theorem dX5_follow_32 : decode cX5_follow 32 = .ok (.bipush 26, 2) := by decide +kernel
theorem dX5_follow_34 : decode cX5_follow 34 = .ok (.imul, 1) := by decide +kernel
theorem dX5_follow_35 : decode cX5_follow 35 = .ok (.iload_n 2, 1) := by decide +kernel
theorem dX5_follow_36 : decode cX5_follow 36 = .ok (.iadd, 1) := by decide +kernel
theorem dX5_follow_37 : decode cX5_follow 37 = .ok (.iaload, 1) := by decide +kernel
theorem dX5_follow_38 : decode cX5_follow 38 = .ok (.iastore, 1) := by decide +kernel
theorem dX5_follow_39 : decode cX5_follow 39 = .ok (.aload_n 0, 1) := by decide +kernel
theorem dX5_follow_40 : decode cX5_follow 40 = .ok (.getfield 9, 3) := by decide +kernel
theorem dX5_follow_43 : decode cX5_follow 43 = .ok (.iload_n 3, 1) := by decide +kernel
theorem dX5_follow_44 : decode cX5_follow 44 = .ok (.iaload, 1) := by decide +kernel
theorem dX5_follow_45 : decode cX5_follow 45 = .ok (.iload_n 2, 1) := by decide +kernel
theorem dX5_follow_46 : decode cX5_follow 46 = .ok (.invokestatic 116, 3) := by decide +kernel
theorem dX5_follow_49 : decode cX5_follow 49 = .ok (.invokestatic 113, 3) := by decide +kernel
theorem dX5_follow_52 : decode cX5_follow 52 = .ok (.istore_n 2, 1) := by decide +kernel
theorem dX5_follow_53 : decode cX5_follow 53 = .ok (.iinc 3 1, 3) := by decide +kernel
theorem dX5_follow_56 : decode cX5_follow 56 = .ok (.goto (-52), 3) := by decide +kernel
theorem dX5_follow_59 : decode cX5_follow 59 = .ok (.return_, 1) := by decide +kernel
theorem dX5_after_0 : decode cX5_after 0 = .ok (.iload_n 0, 1) := by decide +kernel
theorem dX5_after_1 : decode cX5_after 1 = .ok (.tableswitch 31 1 3 #[27, 29, 29], 27) := by decide +kernel
theorem dX5_after_28 : decode cX5_after 28 = .ok (.iconst 0, 1) := by decide +kernel
theorem dX5_after_29 : decode cX5_after 29 = .ok (.ireturn, 1) := by decide +kernel
theorem dX5_after_30 : decode cX5_after 30 = .ok (.iconst 1, 1) := by decide +kernel
theorem dX5_after_31 : decode cX5_after 31 = .ok (.ireturn, 1) := by decide +kernel
theorem dX5_after_32 : decode cX5_after 32 = .ok (.iload_n 1, 1) := by decide +kernel
theorem dX5_after_33 : decode cX5_after 33 = .ok (.ireturn, 1) := by decide +kernel
theorem dX5_nextOf_0 : decode cX5_nextOf 0 = .ok (.iload_n 0, 1) := by decide +kernel
theorem dX5_nextOf_1 : decode cX5_nextOf 1 = .ok (.iconst 1, 1) := by decide +kernel
theorem dX5_nextOf_2 : decode cX5_nextOf 2 = .ok (.isub, 1) := by decide +kernel
theorem dX5_nextOf_3 : decode cX5_nextOf 3 = .ok (.invokestatic 119, 3) := by decide +kernel
theorem dX5_nextOf_6 : decode cX5_nextOf 6 = .ok (.iconst 1, 1) := by decide +kernel
theorem dX5_nextOf_7 : decode cX5_nextOf 7 = .ok (.iadd, 1) := by decide +kernel
theorem dX5_nextOf_8 : decode cX5_nextOf 8 = .ok (.ireturn, 1) := by decide +kernel
theorem dX6_init_0 : decode cX6_init 0 = .ok (.aload_n 0, 1) := by decide +kernel
theorem dX6_init_1 : decode cX6_init 1 = .ok (.invokespecial 3, 3) := by decide +kernel
theorem dX6_init_4 : decode cX6_init 4 = .ok (.aload_n 0, 1) := by decide +kernel
theorem dX6_init_5 : decode cX6_init 5 = .ok (.sipush 300, 3) := by decide +kernel
theorem dX6_init_8 : decode cX6_init 8 = .ok (.newarray .int, 2) := by decide +kernel
theorem dX6_init_10 : decode cX6_init 10 = .ok (.putfield 9, 3) := by decide +kernel
theorem dX6_init_13 : decode cX6_init 13 = .ok (.aload_n 0, 1) := by decide +kernel
theorem dX6_init_14 : decode cX6_init 14 = .ok (.sipush 300, 3) := by decide +kernel
theorem dX6_init_17 : decode cX6_init 17 = .ok (.newarray .int, 2) := by decide +kernel
theorem dX6_init_19 : decode cX6_init 19 = .ok (.putfield 15, 3) := by decide +kernel
theorem dX6_init_22 : decode cX6_init 22 = .ok (.aload_n 0, 1) := by decide +kernel
theorem dX6_init_23 : decode cX6_init 23 = .ok (.sipush 300, 3) := by decide +kernel
theorem dX6_init_26 : decode cX6_init 26 = .ok (.newarray .int, 2) := by decide +kernel
theorem dX6_init_28 : decode cX6_init 28 = .ok (.putfield 18, 3) := by decide +kernel
theorem dX6_init_31 : decode cX6_init 31 = .ok (.aload_n 0, 1) := by decide +kernel
theorem dX6_init_32 : decode cX6_init 32 = .ok (.sipush 300, 3) := by decide +kernel
theorem dX6_init_35 : decode cX6_init 35 = .ok (.newarray .int, 2) := by decide +kernel
theorem dX6_init_37 : decode cX6_init 37 = .ok (.putfield 21, 3) := by decide +kernel
theorem dX6_init_40 : decode cX6_init 40 = .ok (.return_, 1) := by decide +kernel
theorem dX6_tell_0 : decode cX6_tell 0 = .ok (.aload_n 0, 1) := by decide +kernel
theorem dX6_tell_1 : decode cX6_tell 1 = .ok (.getfield 24, 3) := by decide +kernel
theorem dX6_tell_4 : decode cX6_tell 4 = .ok (.sipush 300, 3) := by decide +kernel
theorem dX6_tell_7 : decode cX6_tell 7 = .ok (.if_icmp .lt 4, 3) := by decide +kernel
theorem dX6_tell_10 : decode cX6_tell 10 = .ok (.return_, 1) := by decide +kernel
theorem dX6_tell_11 : decode cX6_tell 11 = .ok (.aload_n 0, 1) := by decide +kernel
theorem dX6_tell_12 : decode cX6_tell 12 = .ok (.getfield 9, 3) := by decide +kernel
theorem dX6_tell_15 : decode cX6_tell 15 = .ok (.aload_n 0, 1) := by decide +kernel
theorem dX6_tell_16 : decode cX6_tell 16 = .ok (.getfield 24, 3) := by decide +kernel
theorem dX6_tell_19 : decode cX6_tell 19 = .ok (.iload_n 1, 1) := by decide +kernel
theorem dX6_tell_20 : decode cX6_tell 20 = .ok (.iastore, 1) := by decide +kernel
theorem dX6_tell_21 : decode cX6_tell 21 = .ok (.aload_n 0, 1) := by decide +kernel
theorem dX6_tell_22 : decode cX6_tell 22 = .ok (.getfield 15, 3) := by decide +kernel
theorem dX6_tell_25 : decode cX6_tell 25 = .ok (.aload_n 0, 1) := by decide +kernel
theorem dX6_tell_26 : decode cX6_tell 26 = .ok (.getfield 24, 3) := by decide +kernel
theorem dX6_tell_29 : decode cX6_tell 29 = .ok (.iload_n 2, 1) := by decide +kernel
theorem dX6_tell_30 : decode cX6_tell 30 = .ok (.iastore, 1) := by decide +kernel
theorem dX6_tell_31 : decode cX6_tell 31 = .ok (.aload_n 0, 1) := by decide +kernel
theorem dX6_tell_32 : decode cX6_tell 32 = .ok (.getfield 18, 3) := by decide +kernel
theorem dX6_tell_35 : decode cX6_tell 35 = .ok (.aload_n 0, 1) := by decide +kernel
theorem dX6_tell_36 : decode cX6_tell 36 = .ok (.getfield 24, 3) := by decide +kernel
theorem dX6_tell_39 : decode cX6_tell 39 = .ok (.iload_n 3, 1) := by decide +kernel
theorem dX6_tell_40 : decode cX6_tell 40 = .ok (.iastore, 1) := by decide +kernel
theorem dX6_tell_41 : decode cX6_tell 41 = .ok (.aload_n 0, 1) := by decide +kernel
theorem dX6_tell_42 : decode cX6_tell 42 = .ok (.getfield 21, 3) := by decide +kernel
theorem dX6_tell_45 : decode cX6_tell 45 = .ok (.aload_n 0, 1) := by decide +kernel
theorem dX6_tell_46 : decode cX6_tell 46 = .ok (.getfield 24, 3) := by decide +kernel
theorem dX6_tell_49 : decode cX6_tell 49 = .ok (.iload 4, 2) := by decide +kernel
theorem dX6_tell_51 : decode cX6_tell 51 = .ok (.iastore, 1) := by decide +kernel
theorem dX6_tell_52 : decode cX6_tell 52 = .ok (.aload_n 0, 1) := by decide +kernel
theorem dX6_tell_53 : decode cX6_tell 53 = .ok (.dup, 1) := by decide +kernel
theorem dX6_tell_54 : decode cX6_tell 54 = .ok (.getfield 24, 3) := by decide +kernel
theorem dX6_tell_57 : decode cX6_tell 57 = .ok (.iconst 1, 1) := by decide +kernel
theorem dX6_tell_58 : decode cX6_tell 58 = .ok (.iadd, 1) := by decide +kernel
theorem dX6_tell_59 : decode cX6_tell 59 = .ok (.putfield 24, 3) := by decide +kernel
theorem dX6_tell_62 : decode cX6_tell 62 = .ok (.return_, 1) := by decide +kernel
theorem dX6_asKnown_0 : decode cX6_asKnown 0 = .ok (.iconst 0, 1) := by decide +kernel
theorem dX6_asKnown_1 : decode cX6_asKnown 1 = .ok (.istore 4, 2) := by decide +kernel
theorem dX6_asKnown_3 : decode cX6_asKnown 3 = .ok (.iconst 0, 1) := by decide +kernel
theorem dX6_asKnown_4 : decode cX6_asKnown 4 = .ok (.istore 5, 2) := by decide +kernel
theorem dX6_asKnown_6 : decode cX6_asKnown 6 = .ok (.iconst 0, 1) := by decide +kernel
theorem dX6_asKnown_7 : decode cX6_asKnown 7 = .ok (.istore 6, 2) := by decide +kernel
theorem dX6_asKnown_9 : decode cX6_asKnown 9 = .ok (.iload 6, 2) := by decide +kernel
theorem dX6_asKnown_11 : decode cX6_asKnown 11 = .ok (.aload_n 0, 1) := by decide +kernel
theorem dX6_asKnown_12 : decode cX6_asKnown 12 = .ok (.getfield 24, 3) := by decide +kernel
theorem dX6_asKnown_15 : decode cX6_asKnown 15 = .ok (.if_icmp .ge 84, 3) := by decide +kernel
theorem dX6_asKnown_18 : decode cX6_asKnown 18 = .ok (.aload_n 0, 1) := by decide +kernel
theorem dX6_asKnown_19 : decode cX6_asKnown 19 = .ok (.getfield 9, 3) := by decide +kernel
theorem dX6_asKnown_22 : decode cX6_asKnown 22 = .ok (.iload 6, 2) := by decide +kernel
theorem dX6_asKnown_24 : decode cX6_asKnown 24 = .ok (.iaload, 1) := by decide +kernel
theorem dX6_asKnown_25 : decode cX6_asKnown 25 = .ok (.iload_n 1, 1) := by decide +kernel
theorem dX6_asKnown_26 : decode cX6_asKnown 26 = .ok (.if_icmp .ne 29, 3) := by decide +kernel
theorem dX6_asKnown_29 : decode cX6_asKnown 29 = .ok (.aload_n 0, 1) := by decide +kernel
theorem dX6_asKnown_30 : decode cX6_asKnown 30 = .ok (.getfield 21, 3) := by decide +kernel
theorem dX6_asKnown_33 : decode cX6_asKnown 33 = .ok (.iload 6, 2) := by decide +kernel
theorem dX6_asKnown_35 : decode cX6_asKnown 35 = .ok (.iaload, 1) := by decide +kernel
theorem dX6_asKnown_36 : decode cX6_asKnown 36 = .ok (.iload_n 3, 1) := by decide +kernel
theorem dX6_asKnown_37 : decode cX6_asKnown 37 = .ok (.if_icmp .gt 18, 3) := by decide +kernel
theorem dX6_asKnown_40 : decode cX6_asKnown 40 = .ok (.aload_n 0, 1) := by decide +kernel
theorem dX6_asKnown_41 : decode cX6_asKnown 41 = .ok (.getfield 15, 3) := by decide +kernel
theorem dX6_asKnown_44 : decode cX6_asKnown 44 = .ok (.iload 6, 2) := by decide +kernel
theorem dX6_asKnown_46 : decode cX6_asKnown 46 = .ok (.iaload, 1) := by decide +kernel
theorem dX6_asKnown_47 : decode cX6_asKnown 47 = .ok (.iload_n 2, 1) := by decide +kernel
theorem dX6_asKnown_48 : decode cX6_asKnown 48 = .ok (.if_icmp .gt 7, 3) := by decide +kernel
theorem dX6_asKnown_51 : decode cX6_asKnown 51 = .ok (.iconst 1, 1) := by decide +kernel
theorem dX6_asKnown_52 : decode cX6_asKnown 52 = .ok (.goto 4, 3) := by decide +kernel
theorem dX6_asKnown_55 : decode cX6_asKnown 55 = .ok (.iconst 0, 1) := by decide +kernel
theorem dX6_asKnown_56 : decode cX6_asKnown 56 = .ok (.istore 7, 2) := by decide +kernel
theorem dX6_asKnown_58 : decode cX6_asKnown 58 = .ok (.iload 7, 2) := by decide +kernel
theorem dX6_asKnown_60 : decode cX6_asKnown 60 = .ok (.ifCond .eq 33, 3) := by decide +kernel
theorem dX6_asKnown_63 : decode cX6_asKnown 63 = .ok (.aload_n 0, 1) := by decide +kernel
theorem dX6_asKnown_64 : decode cX6_asKnown 64 = .ok (.getfield 15, 3) := by decide +kernel
theorem dX6_asKnown_67 : decode cX6_asKnown 67 = .ok (.iload 6, 2) := by decide +kernel
theorem dX6_asKnown_69 : decode cX6_asKnown 69 = .ok (.iaload, 1) := by decide +kernel
theorem dX6_asKnown_70 : decode cX6_asKnown 70 = .ok (.iload 5, 2) := by decide +kernel
theorem dX6_asKnown_72 : decode cX6_asKnown 72 = .ok (.if_icmp .lt 21, 3) := by decide +kernel
theorem dX6_asKnown_75 : decode cX6_asKnown 75 = .ok (.aload_n 0, 1) := by decide +kernel
theorem dX6_asKnown_76 : decode cX6_asKnown 76 = .ok (.getfield 18, 3) := by decide +kernel
theorem dX6_asKnown_79 : decode cX6_asKnown 79 = .ok (.iload 6, 2) := by decide +kernel
theorem dX6_asKnown_81 : decode cX6_asKnown 81 = .ok (.iaload, 1) := by decide +kernel
theorem dX6_asKnown_82 : decode cX6_asKnown 82 = .ok (.istore 4, 2) := by decide +kernel
theorem dX6_asKnown_84 : decode cX6_asKnown 84 = .ok (.aload_n 0, 1) := by decide +kernel
theorem dX6_asKnown_85 : decode cX6_asKnown 85 = .ok (.getfield 15, 3) := by decide +kernel
theorem dX6_asKnown_88 : decode cX6_asKnown 88 = .ok (.iload 6, 2) := by decide +kernel
theorem dX6_asKnown_90 : decode cX6_asKnown 90 = .ok (.iaload, 1) := by decide +kernel
theorem dX6_asKnown_91 : decode cX6_asKnown 91 = .ok (.istore 5, 2) := by decide +kernel
theorem dX6_asKnown_93 : decode cX6_asKnown 93 = .ok (.iinc 6 1, 3) := by decide +kernel
theorem dX6_asKnown_96 : decode cX6_asKnown 96 = .ok (.goto (-87), 3) := by decide +kernel
theorem dX6_asKnown_99 : decode cX6_asKnown 99 = .ok (.iload 4, 2) := by decide +kernel
theorem dX6_asKnown_101 : decode cX6_asKnown 101 = .ok (.ireturn, 1) := by decide +kernel
theorem dX7_init_0 : decode cX7_init 0 = .ok (.aload_n 0, 1) := by decide +kernel
theorem dX7_init_1 : decode cX7_init 1 = .ok (.invokespecial 3, 3) := by decide +kernel
theorem dX7_init_4 : decode cX7_init 4 = .ok (.aload_n 0, 1) := by decide +kernel
theorem dX7_init_5 : decode cX7_init 5 = .ok (.sipush 200, 3) := by decide +kernel
theorem dX7_init_8 : decode cX7_init 8 = .ok (.newarray .int, 2) := by decide +kernel
theorem dX7_init_10 : decode cX7_init 10 = .ok (.putfield 9, 3) := by decide +kernel
theorem dX7_init_13 : decode cX7_init 13 = .ok (.return_, 1) := by decide +kernel
theorem dX7_hasRoomForFive_0 : decode cX7_hasRoomForFive 0 = .ok (.aload_n 0, 1) := by decide +kernel
theorem dX7_hasRoomForFive_1 : decode cX7_hasRoomForFive 1 = .ok (.getfield 15, 3) := by decide +kernel
theorem dX7_hasRoomForFive_4 : decode cX7_hasRoomForFive 4 = .ok (.bipush 20, 2) := by decide +kernel
theorem dX7_hasRoomForFive_6 : decode cX7_hasRoomForFive 6 = .ok (.iadd, 1) := by decide +kernel
theorem dX7_hasRoomForFive_7 : decode cX7_hasRoomForFive 7 = .ok (.sipush 200, 3) := by decide +kernel
theorem dX7_hasRoomForFive_10 : decode cX7_hasRoomForFive 10 = .ok (.if_icmp .gt 7, 3) := by decide +kernel
theorem dX7_hasRoomForFive_13 : decode cX7_hasRoomForFive 13 = .ok (.iconst 1, 1) := by decide +kernel
theorem dX7_hasRoomForFive_14 : decode cX7_hasRoomForFive 14 = .ok (.goto 4, 3) := by decide +kernel
theorem dX7_hasRoomForFive_17 : decode cX7_hasRoomForFive 17 = .ok (.iconst 0, 1) := by decide +kernel
theorem dX7_hasRoomForFive_18 : decode cX7_hasRoomForFive 18 = .ok (.ireturn, 1) := by decide +kernel
theorem dX7_write_0 : decode cX7_write 0 = .ok (.bipush 24, 2) := by decide +kernel
theorem dX7_write_2 : decode cX7_write 2 = .ok (.istore_n 2, 1) := by decide +kernel
theorem dX7_write_3 : decode cX7_write 3 = .ok (.iload_n 2, 1) := by decide +kernel
theorem dX7_write_4 : decode cX7_write 4 = .ok (.ifCond .lt 45, 3) := by decide +kernel
theorem dX7_write_7 : decode cX7_write 7 = .ok (.aload_n 0, 1) := by decide +kernel
theorem dX7_write_8 : decode cX7_write 8 = .ok (.getfield 15, 3) := by decide +kernel
theorem dX7_write_11 : decode cX7_write 11 = .ok (.sipush 200, 3) := by decide +kernel
theorem dX7_write_14 : decode cX7_write 14 = .ok (.if_icmp .ge 35, 3) := by decide +kernel
theorem dX7_write_17 : decode cX7_write 17 = .ok (.aload_n 0, 1) := by decide +kernel
theorem dX7_write_18 : decode cX7_write 18 = .ok (.getfield 9, 3) := by decide +kernel
theorem dX7_write_21 : decode cX7_write 21 = .ok (.aload_n 0, 1) := by decide +kernel
theorem dX7_write_22 : decode cX7_write 22 = .ok (.getfield 15, 3) := by decide +kernel
theorem dX7_write_25 : decode cX7_write 25 = .ok (.iload_n 1, 1) := by decide +kernel
theorem dX7_write_26 : decode cX7_write 26 = .ok (.iload_n 2, 1) := by decide +kernel
theorem dX7_write_27 : decode cX7_write 27 = .ok (.iushr, 1) := by decide +kernel
theorem dX7_write_28 : decode cX7_write 28 = .ok (.sipush 255, 3) := by decide +kernel
theorem dX7_write_31 : decode cX7_write 31 = .ok (.iand, 1) := by decide +kernel
theorem dX7_write_32 : decode cX7_write 32 = .ok (.iastore, 1) := by decide +kernel
theorem dX7_write_33 : decode cX7_write 33 = .ok (.aload_n 0, 1) := by decide +kernel
theorem dX7_write_34 : decode cX7_write 34 = .ok (.dup, 1) := by decide +kernel
theorem dX7_write_35 : decode cX7_write 35 = .ok (.getfield 15, 3) := by decide +kernel
theorem dX7_write_38 : decode cX7_write 38 = .ok (.iconst 1, 1) := by decide +kernel
theorem dX7_write_39 : decode cX7_write 39 = .ok (.iadd, 1) := by decide +kernel
theorem dX7_write_40 : decode cX7_write 40 = .ok (.putfield 15, 3) := by decide +kernel
theorem dX7_write_43 : decode cX7_write 43 = .ok (.iinc 2 (-8), 3) := by decide +kernel
theorem dX7_write_46 : decode cX7_write 46 = .ok (.goto (-43), 3) := by decide +kernel
theorem dX7_write_49 : decode cX7_write 49 = .ok (.return_, 1) := by decide +kernel
theorem dX7_byteAt_0 : decode cX7_byteAt 0 = .ok (.iconst 0, 1) := by decide +kernel
theorem dX7_byteAt_1 : decode cX7_byteAt 1 = .ok (.iload_n 1, 1) := by decide +kernel
theorem dX7_byteAt_2 : decode cX7_byteAt 2 = .ok (.if_icmp .gt 20, 3) := by decide +kernel
theorem dX7_byteAt_5 : decode cX7_byteAt 5 = .ok (.iload_n 1, 1) := by decide +kernel
theorem dX7_byteAt_6 : decode cX7_byteAt 6 = .ok (.aload_n 0, 1) := by decide +kernel
theorem dX7_byteAt_7 : decode cX7_byteAt 7 = .ok (.getfield 15, 3) := by decide +kernel
theorem dX7_byteAt_10 : decode cX7_byteAt 10 = .ok (.if_icmp .ge 12, 3) := by decide +kernel
theorem dX7_byteAt_13 : decode cX7_byteAt 13 = .ok (.aload_n 0, 1) := by decide +kernel
theorem dX7_byteAt_14 : decode cX7_byteAt 14 = .ok (.getfield 9, 3) := by decide +kernel
theorem dX7_byteAt_17 : decode cX7_byteAt 17 = .ok (.iload_n 1, 1) := by decide +kernel
theorem dX7_byteAt_18 : decode cX7_byteAt 18 = .ok (.iaload, 1) := by decide +kernel
theorem dX7_byteAt_19 : decode cX7_byteAt 19 = .ok (.goto 4, 3) := by decide +kernel
theorem dX7_byteAt_22 : decode cX7_byteAt 22 = .ok (.iconst (-1), 1) := by decide +kernel
theorem dX7_byteAt_23 : decode cX7_byteAt 23 = .ok (.ireturn, 1) := by decide +kernel
theorem dX7_kindAt_0 : decode cX7_kindAt 0 = .ok (.aload_n 0, 1) := by decide +kernel
theorem dX7_kindAt_1 : decode cX7_kindAt 1 = .ok (.iload_n 1, 1) := by decide +kernel
theorem dX7_kindAt_2 : decode cX7_kindAt 2 = .ok (.invokevirtual 19, 3) := by decide +kernel
theorem dX7_kindAt_5 : decode cX7_kindAt 5 = .ok (.istore_n 2, 1) := by decide +kernel
theorem dX7_kindAt_6 : decode cX7_kindAt 6 = .ok (.iload_n 2, 1) := by decide +kernel
theorem dX7_kindAt_7 : decode cX7_kindAt 7 = .ok (.bipush 32, 2) := by decide +kernel
theorem dX7_kindAt_9 : decode cX7_kindAt 9 = .ok (.if_icmp .ne 5, 3) := by decide +kernel
theorem dX7_kindAt_12 : decode cX7_kindAt 12 = .ok (.iconst 0, 1) := by decide +kernel
theorem dX7_kindAt_13 : decode cX7_kindAt 13 = .ok (.ireturn, 1) := by decide +kernel
theorem dX7_kindAt_14 : decode cX7_kindAt 14 = .ok (.bipush 97, 2) := by decide +kernel
theorem dX7_kindAt_16 : decode cX7_kindAt 16 = .ok (.iload_n 2, 1) := by decide +kernel
theorem dX7_kindAt_17 : decode cX7_kindAt 17 = .ok (.if_icmp .gt 11, 3) := by decide +kernel
theorem dX7_kindAt_20 : decode cX7_kindAt 20 = .ok (.iload_n 2, 1) := by decide +kernel
theorem dX7_kindAt_21 : decode cX7_kindAt 21 = .ok (.bipush 122, 2) := by decide +kernel
theorem dX7_kindAt_23 : decode cX7_kindAt 23 = .ok (.if_icmp .gt 5, 3) := by decide +kernel
theorem dX7_kindAt_26 : decode cX7_kindAt 26 = .ok (.iconst 1, 1) := by decide +kernel
theorem dX7_kindAt_27 : decode cX7_kindAt 27 = .ok (.ireturn, 1) := by decide +kernel
theorem dX7_kindAt_28 : decode cX7_kindAt 28 = .ok (.bipush 48, 2) := by decide +kernel
theorem dX7_kindAt_30 : decode cX7_kindAt 30 = .ok (.iload_n 2, 1) := by decide +kernel
theorem dX7_kindAt_31 : decode cX7_kindAt 31 = .ok (.if_icmp .gt 13, 3) := by decide +kernel
theorem dX7_kindAt_34 : decode cX7_kindAt 34 = .ok (.iload_n 2, 1) := by decide +kernel
theorem dX7_kindAt_35 : decode cX7_kindAt 35 = .ok (.bipush 57, 2) := by decide +kernel
theorem dX7_kindAt_37 : decode cX7_kindAt 37 = .ok (.if_icmp .gt 7, 3) := by decide +kernel
theorem dX7_kindAt_40 : decode cX7_kindAt 40 = .ok (.iconst 2, 1) := by decide +kernel
theorem dX7_kindAt_41 : decode cX7_kindAt 41 = .ok (.goto 4, 3) := by decide +kernel
theorem dX7_kindAt_44 : decode cX7_kindAt 44 = .ok (.iconst 3, 1) := by decide +kernel
theorem dX7_kindAt_45 : decode cX7_kindAt 45 = .ok (.ireturn, 1) := by decide +kernel
theorem dX8_init_0 : decode cX8_init 0 = .ok (.aload_n 0, 1) := by decide +kernel
theorem dX8_init_1 : decode cX8_init 1 = .ok (.invokespecial 3, 3) := by decide +kernel
theorem dX8_init_4 : decode cX8_init 4 = .ok (.aload_n 0, 1) := by decide +kernel
theorem dX8_init_5 : decode cX8_init 5 = .ok (.new 9, 3) := by decide +kernel
