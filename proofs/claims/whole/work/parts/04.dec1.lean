theorem dX8_init_8 : decode cX8_init 8 = .ok (.dup, 1) := by decide +kernel
theorem dX8_init_9 : decode cX8_init 9 = .ok (.invokespecial 11, 3) := by decide +kernel
theorem dX8_init_12 : decode cX8_init 12 = .ok (.putfield 12, 3) := by decide +kernel
theorem dX8_init_15 : decode cX8_init 15 = .ok (.aload_n 0, 1) := by decide +kernel
theorem dX8_init_16 : decode cX8_init 16 = .ok (.iconst (-1), 1) := by decide +kernel
theorem dX8_init_17 : decode cX8_init 17 = .ok (.putfield 18, 3) := by decide +kernel
theorem dX8_init_20 : decode cX8_init 20 = .ok (.aload_n 0, 1) := by decide +kernel
theorem dX8_init_21 : decode cX8_init 21 = .ok (.sipush 200, 3) := by decide +kernel
theorem dX8_init_24 : decode cX8_init 24 = .ok (.newarray .int, 2) := by decide +kernel
theorem dX8_init_26 : decode cX8_init 26 = .ok (.putfield 22, 3) := by decide +kernel
theorem dX8_init_29 : decode cX8_init 29 = .ok (.aload_n 0, 1) := by decide +kernel
theorem dX8_init_30 : decode cX8_init 30 = .ok (.sipush 200, 3) := by decide +kernel
theorem dX8_init_33 : decode cX8_init 33 = .ok (.newarray .int, 2) := by decide +kernel
theorem dX8_init_35 : decode cX8_init 35 = .ok (.putfield 26, 3) := by decide +kernel
theorem dX8_init_38 : decode cX8_init 38 = .ok (.aload_n 0, 1) := by decide +kernel
theorem dX8_init_39 : decode cX8_init 39 = .ok (.sipush 200, 3) := by decide +kernel
theorem dX8_init_42 : decode cX8_init 42 = .ok (.newarray .int, 2) := by decide +kernel
theorem dX8_init_44 : decode cX8_init 44 = .ok (.putfield 29, 3) := by decide +kernel
theorem dX8_init_47 : decode cX8_init 47 = .ok (.aload_n 0, 1) := by decide +kernel
theorem dX8_init_48 : decode cX8_init 48 = .ok (.aload_n 1, 1) := by decide +kernel
theorem dX8_init_49 : decode cX8_init 49 = .ok (.putfield 32, 3) := by decide +kernel
theorem dX8_init_52 : decode cX8_init 52 = .ok (.return_, 1) := by decide +kernel
theorem dX8_readAll_0 : decode cX8_readAll 0 = .ok (.aload_n 0, 1) := by decide +kernel
theorem dX8_readAll_1 : decode cX8_readAll 1 = .ok (.invokevirtual 36, 3) := by decide +kernel
theorem dX8_readAll_4 : decode cX8_readAll 4 = .ok (.aload_n 0, 1) := by decide +kernel
theorem dX8_readAll_5 : decode cX8_readAll 5 = .ok (.getfield 12, 3) := by decide +kernel
theorem dX8_readAll_8 : decode cX8_readAll 8 = .ok (.iconst 0, 1) := by decide +kernel
theorem dX8_readAll_9 : decode cX8_readAll 9 = .ok (.putfield 39, 3) := by decide +kernel
theorem dX8_readAll_12 : decode cX8_readAll 12 = .ok (.aload_n 0, 1) := by decide +kernel
theorem dX8_readAll_13 : decode cX8_readAll 13 = .ok (.iconst (-1), 1) := by decide +kernel
theorem dX8_readAll_14 : decode cX8_readAll 14 = .ok (.putfield 18, 3) := by decide +kernel
theorem dX8_readAll_17 : decode cX8_readAll 17 = .ok (.aload_n 0, 1) := by decide +kernel
theorem dX8_readAll_18 : decode cX8_readAll 18 = .ok (.getfield 42, 3) := by decide +kernel
theorem dX8_readAll_21 : decode cX8_readAll 21 = .ok (.ifCond .le 7, 3) := by decide +kernel
theorem dX8_readAll_24 : decode cX8_readAll 24 = .ok (.iconst 1, 1) := by decide +kernel
theorem dX8_readAll_25 : decode cX8_readAll 25 = .ok (.goto 4, 3) := by decide +kernel
theorem dX8_readAll_28 : decode cX8_readAll 28 = .ok (.iconst 0, 1) := by decide +kernel
theorem dX8_readAll_29 : decode cX8_readAll 29 = .ok (.istore_n 1, 1) := by decide +kernel
theorem dX8_readAll_30 : decode cX8_readAll 30 = .ok (.iconst 0, 1) := by decide +kernel
theorem dX8_readAll_31 : decode cX8_readAll 31 = .ok (.istore_n 2, 1) := by decide +kernel
theorem dX8_readAll_32 : decode cX8_readAll 32 = .ok (.iload_n 2, 1) := by decide +kernel
theorem dX8_readAll_33 : decode cX8_readAll 33 = .ok (.bipush 20, 2) := by decide +kernel
theorem dX8_readAll_35 : decode cX8_readAll 35 = .ok (.if_icmp .gt 33, 3) := by decide +kernel
theorem dX8_readAll_38 : decode cX8_readAll 38 = .ok (.iload_n 1, 1) := by decide +kernel
theorem dX8_readAll_39 : decode cX8_readAll 39 = .ok (.ifCond .eq 29, 3) := by decide +kernel
theorem dX8_readAll_42 : decode cX8_readAll 42 = .ok (.aload_n 0, 1) := by decide +kernel
theorem dX8_readAll_43 : decode cX8_readAll 43 = .ok (.invokevirtual 45, 3) := by decide +kernel
theorem dX8_readAll_46 : decode cX8_readAll 46 = .ok (.ifCond .eq 14, 3) := by decide +kernel
theorem dX8_readAll_49 : decode cX8_readAll 49 = .ok (.aload_n 0, 1) := by decide +kernel
theorem dX8_readAll_50 : decode cX8_readAll 50 = .ok (.invokevirtual 49, 3) := by decide +kernel
theorem dX8_readAll_53 : decode cX8_readAll 53 = .ok (.ifCond .eq 7, 3) := by decide +kernel
theorem dX8_readAll_56 : decode cX8_readAll 56 = .ok (.iconst 1, 1) := by decide +kernel
theorem dX8_readAll_57 : decode cX8_readAll 57 = .ok (.goto 4, 3) := by decide +kernel
theorem dX8_readAll_60 : decode cX8_readAll 60 = .ok (.iconst 0, 1) := by decide +kernel
theorem dX8_readAll_61 : decode cX8_readAll 61 = .ok (.istore_n 1, 1) := by decide +kernel
theorem dX8_readAll_62 : decode cX8_readAll 62 = .ok (.iinc 2 1, 3) := by decide +kernel
theorem dX8_readAll_65 : decode cX8_readAll 65 = .ok (.goto (-33), 3) := by decide +kernel
theorem dX8_readAll_68 : decode cX8_readAll 68 = .ok (.aload_n 0, 1) := by decide +kernel
theorem dX8_readAll_69 : decode cX8_readAll 69 = .ok (.getfield 18, 3) := by decide +kernel
theorem dX8_readAll_72 : decode cX8_readAll 72 = .ok (.iconst (-1), 1) := by decide +kernel
theorem dX8_readAll_73 : decode cX8_readAll 73 = .ok (.if_icmp .ne 7, 3) := by decide +kernel
theorem dX8_readAll_76 : decode cX8_readAll 76 = .ok (.iconst 1, 1) := by decide +kernel
theorem dX8_readAll_77 : decode cX8_readAll 77 = .ok (.goto 4, 3) := by decide +kernel
theorem dX8_readAll_80 : decode cX8_readAll 80 = .ok (.iconst 0, 1) := by decide +kernel
theorem dX8_readAll_81 : decode cX8_readAll 81 = .ok (.ireturn, 1) := by decide +kernel
theorem dX8_cutTokens_0 : decode cX8_cutTokens 0 = .ok (.aload_n 0, 1) := by decide +kernel
theorem dX8_cutTokens_1 : decode cX8_cutTokens 1 = .ok (.iconst 0, 1) := by decide +kernel
theorem dX8_cutTokens_2 : decode cX8_cutTokens 2 = .ok (.putfield 42, 3) := by decide +kernel
theorem dX8_cutTokens_5 : decode cX8_cutTokens 5 = .ok (.aload_n 0, 1) := by decide +kernel
theorem dX8_cutTokens_6 : decode cX8_cutTokens 6 = .ok (.iconst 0, 1) := by decide +kernel
theorem dX8_cutTokens_7 : decode cX8_cutTokens 7 = .ok (.putfield 52, 3) := by decide +kernel
theorem dX8_cutTokens_10 : decode cX8_cutTokens 10 = .ok (.iconst 0, 1) := by decide +kernel
theorem dX8_cutTokens_11 : decode cX8_cutTokens 11 = .ok (.istore_n 1, 1) := by decide +kernel
theorem dX8_cutTokens_12 : decode cX8_cutTokens 12 = .ok (.iconst 0, 1) := by decide +kernel
theorem dX8_cutTokens_13 : decode cX8_cutTokens 13 = .ok (.istore_n 2, 1) := by decide +kernel
theorem dX8_cutTokens_14 : decode cX8_cutTokens 14 = .ok (.iload_n 2, 1) := by decide +kernel
theorem dX8_cutTokens_15 : decode cX8_cutTokens 15 = .ok (.aload_n 0, 1) := by decide +kernel
theorem dX8_cutTokens_16 : decode cX8_cutTokens 16 = .ok (.getfield 32, 3) := by decide +kernel
theorem dX8_cutTokens_19 : decode cX8_cutTokens 19 = .ok (.getfield 57, 3) := by decide +kernel
theorem dX8_cutTokens_22 : decode cX8_cutTokens 22 = .ok (.if_icmp .ge 111, 3) := by decide +kernel
theorem dX8_cutTokens_25 : decode cX8_cutTokens 25 = .ok (.aload_n 0, 1) := by decide +kernel
theorem dX8_cutTokens_26 : decode cX8_cutTokens 26 = .ok (.getfield 42, 3) := by decide +kernel
theorem dX8_cutTokens_29 : decode cX8_cutTokens 29 = .ok (.sipush 200, 3) := by decide +kernel
theorem dX8_cutTokens_32 : decode cX8_cutTokens 32 = .ok (.if_icmp .ge 101, 3) := by decide +kernel
theorem dX8_cutTokens_35 : decode cX8_cutTokens 35 = .ok (.aload_n 0, 1) := by decide +kernel
theorem dX8_cutTokens_36 : decode cX8_cutTokens 36 = .ok (.getfield 32, 3) := by decide +kernel
theorem dX8_cutTokens_39 : decode cX8_cutTokens 39 = .ok (.iload_n 2, 1) := by decide +kernel
theorem dX8_cutTokens_40 : decode cX8_cutTokens 40 = .ok (.invokevirtual 60, 3) := by decide +kernel
theorem dX8_cutTokens_43 : decode cX8_cutTokens 43 = .ok (.istore_n 3, 1) := by decide +kernel
theorem dX8_cutTokens_44 : decode cX8_cutTokens 44 = .ok (.iload_n 3, 1) := by decide +kernel
theorem dX8_cutTokens_45 : decode cX8_cutTokens 45 = .ok (.iload_n 1, 1) := by decide +kernel
theorem dX8_cutTokens_46 : decode cX8_cutTokens 46 = .ok (.if_icmp .ne 12, 3) := by decide +kernel
theorem dX8_cutTokens_49 : decode cX8_cutTokens 49 = .ok (.iload_n 3, 1) := by decide +kernel
theorem dX8_cutTokens_50 : decode cX8_cutTokens 50 = .ok (.iconst 3, 1) := by decide +kernel
theorem dX8_cutTokens_51 : decode cX8_cutTokens 51 = .ok (.if_icmp .eq 7, 3) := by decide +kernel
theorem dX8_cutTokens_54 : decode cX8_cutTokens 54 = .ok (.iconst 1, 1) := by decide +kernel
theorem dX8_cutTokens_55 : decode cX8_cutTokens 55 = .ok (.goto 4, 3) := by decide +kernel
theorem dX8_cutTokens_58 : decode cX8_cutTokens 58 = .ok (.iconst 0, 1) := by decide +kernel
theorem dX8_cutTokens_59 : decode cX8_cutTokens 59 = .ok (.istore 4, 2) := by decide +kernel
theorem dX8_cutTokens_61 : decode cX8_cutTokens 61 = .ok (.iload_n 3, 1) := by decide +kernel
theorem dX8_cutTokens_62 : decode cX8_cutTokens 62 = .ok (.ifCond .eq 38, 3) := by decide +kernel
theorem dX8_cutTokens_65 : decode cX8_cutTokens 65 = .ok (.iload 4, 2) := by decide +kernel
theorem dX8_cutTokens_67 : decode cX8_cutTokens 67 = .ok (.ifCond .ne 33, 3) := by decide +kernel
theorem dX8_cutTokens_70 : decode cX8_cutTokens 70 = .ok (.aload_n 0, 1) := by decide +kernel
theorem dX8_cutTokens_71 : decode cX8_cutTokens 71 = .ok (.getfield 22, 3) := by decide +kernel
theorem dX8_cutTokens_74 : decode cX8_cutTokens 74 = .ok (.aload_n 0, 1) := by decide +kernel
theorem dX8_cutTokens_75 : decode cX8_cutTokens 75 = .ok (.getfield 42, 3) := by decide +kernel
theorem dX8_cutTokens_78 : decode cX8_cutTokens 78 = .ok (.iload_n 2, 1) := by decide +kernel
theorem dX8_cutTokens_79 : decode cX8_cutTokens 79 = .ok (.iastore, 1) := by decide +kernel
theorem dX8_cutTokens_80 : decode cX8_cutTokens 80 = .ok (.aload_n 0, 1) := by decide +kernel
theorem dX8_cutTokens_81 : decode cX8_cutTokens 81 = .ok (.getfield 29, 3) := by decide +kernel
theorem dX8_cutTokens_84 : decode cX8_cutTokens 84 = .ok (.aload_n 0, 1) := by decide +kernel
theorem dX8_cutTokens_85 : decode cX8_cutTokens 85 = .ok (.getfield 42, 3) := by decide +kernel
theorem dX8_cutTokens_88 : decode cX8_cutTokens 88 = .ok (.iload_n 3, 1) := by decide +kernel
theorem dX8_cutTokens_89 : decode cX8_cutTokens 89 = .ok (.iastore, 1) := by decide +kernel
theorem dX8_cutTokens_90 : decode cX8_cutTokens 90 = .ok (.aload_n 0, 1) := by decide +kernel
theorem dX8_cutTokens_91 : decode cX8_cutTokens 91 = .ok (.dup, 1) := by decide +kernel
theorem dX8_cutTokens_92 : decode cX8_cutTokens 92 = .ok (.getfield 42, 3) := by decide +kernel
theorem dX8_cutTokens_95 : decode cX8_cutTokens 95 = .ok (.iconst 1, 1) := by decide +kernel
theorem dX8_cutTokens_96 : decode cX8_cutTokens 96 = .ok (.iadd, 1) := by decide +kernel
theorem dX8_cutTokens_97 : decode cX8_cutTokens 97 = .ok (.putfield 42, 3) := by decide +kernel
theorem dX8_cutTokens_100 : decode cX8_cutTokens 100 = .ok (.iload_n 3, 1) := by decide +kernel
theorem dX8_cutTokens_101 : decode cX8_cutTokens 101 = .ok (.ifCond .eq 24, 3) := by decide +kernel
theorem dX8_cutTokens_104 : decode cX8_cutTokens 104 = .ok (.aload_n 0, 1) := by decide +kernel
theorem dX8_cutTokens_105 : decode cX8_cutTokens 105 = .ok (.getfield 42, 3) := by decide +kernel
theorem dX8_cutTokens_108 : decode cX8_cutTokens 108 = .ok (.ifCond .le 17, 3) := by decide +kernel
theorem dX8_cutTokens_111 : decode cX8_cutTokens 111 = .ok (.aload_n 0, 1) := by decide +kernel
theorem dX8_cutTokens_112 : decode cX8_cutTokens 112 = .ok (.getfield 26, 3) := by decide +kernel
theorem dX8_cutTokens_115 : decode cX8_cutTokens 115 = .ok (.aload_n 0, 1) := by decide +kernel
theorem dX8_cutTokens_116 : decode cX8_cutTokens 116 = .ok (.getfield 42, 3) := by decide +kernel
theorem dX8_cutTokens_119 : decode cX8_cutTokens 119 = .ok (.iconst 1, 1) := by decide +kernel
theorem dX8_cutTokens_120 : decode cX8_cutTokens 120 = .ok (.isub, 1) := by decide +kernel
theorem dX8_cutTokens_121 : decode cX8_cutTokens 121 = .ok (.iload_n 2, 1) := by decide +kernel
theorem dX8_cutTokens_122 : decode cX8_cutTokens 122 = .ok (.iconst 1, 1) := by decide +kernel
theorem dX8_cutTokens_123 : decode cX8_cutTokens 123 = .ok (.iadd, 1) := by decide +kernel
theorem dX8_cutTokens_124 : decode cX8_cutTokens 124 = .ok (.iastore, 1) := by decide +kernel
theorem dX8_cutTokens_125 : decode cX8_cutTokens 125 = .ok (.iload_n 3, 1) := by decide +kernel
theorem dX8_cutTokens_126 : decode cX8_cutTokens 126 = .ok (.istore_n 1, 1) := by decide +kernel
theorem dX8_cutTokens_127 : decode cX8_cutTokens 127 = .ok (.iinc 2 1, 3) := by decide +kernel
theorem dX8_cutTokens_130 : decode cX8_cutTokens 130 = .ok (.goto (-116), 3) := by decide +kernel
theorem dX8_cutTokens_133 : decode cX8_cutTokens 133 = .ok (.return_, 1) := by decide +kernel
theorem dX8_readOne_0 : decode cX8_readOne 0 = .ok (.aload_n 0, 1) := by decide +kernel
theorem dX8_readOne_1 : decode cX8_readOne 1 = .ok (.getfield 12, 3) := by decide +kernel
theorem dX8_readOne_4 : decode cX8_readOne 4 = .ok (.invokevirtual 64, 3) := by decide +kernel
theorem dX8_readOne_7 : decode cX8_readOne 7 = .ok (.ifCond .eq 8, 3) := by decide +kernel
theorem dX8_readOne_10 : decode cX8_readOne 10 = .ok (.aload_n 0, 1) := by decide +kernel
theorem dX8_readOne_11 : decode cX8_readOne 11 = .ok (.invokevirtual 67, 3) := by decide +kernel
theorem dX8_readOne_14 : decode cX8_readOne 14 = .ok (.ireturn, 1) := by decide +kernel
theorem dX8_readOne_15 : decode cX8_readOne 15 = .ok (.aload_n 0, 1) := by decide +kernel
theorem dX8_readOne_16 : decode cX8_readOne 16 = .ok (.ldc 70, 2) := by decide +kernel
theorem dX8_readOne_18 : decode cX8_readOne 18 = .ok (.invokevirtual 72, 3) := by decide +kernel
theorem dX8_readOne_21 : decode cX8_readOne 21 = .ok (.ifCond .eq 8, 3) := by decide +kernel
theorem dX8_readOne_24 : decode cX8_readOne 24 = .ok (.aload_n 0, 1) := by decide +kernel
theorem dX8_readOne_25 : decode cX8_readOne 25 = .ok (.invokevirtual 76, 3) := by decide +kernel
theorem dX8_readOne_28 : decode cX8_readOne 28 = .ok (.ireturn, 1) := by decide +kernel
theorem dX8_readOne_29 : decode cX8_readOne 29 = .ok (.aload_n 0, 1) := by decide +kernel
theorem dX8_readOne_30 : decode cX8_readOne 30 = .ok (.ldc 79, 2) := by decide +kernel
theorem dX8_readOne_32 : decode cX8_readOne 32 = .ok (.invokevirtual 72, 3) := by decide +kernel
theorem dX8_readOne_35 : decode cX8_readOne 35 = .ok (.ifCond .eq 8, 3) := by decide +kernel
theorem dX8_readOne_38 : decode cX8_readOne 38 = .ok (.aload_n 0, 1) := by decide +kernel
theorem dX8_readOne_39 : decode cX8_readOne 39 = .ok (.invokevirtual 81, 3) := by decide +kernel
theorem dX8_readOne_42 : decode cX8_readOne 42 = .ok (.ireturn, 1) := by decide +kernel
theorem dX8_readOne_43 : decode cX8_readOne 43 = .ok (.aload_n 0, 1) := by decide +kernel
theorem dX8_readOne_44 : decode cX8_readOne 44 = .ok (.ldc 84, 2) := by decide +kernel
theorem dX8_readOne_46 : decode cX8_readOne 46 = .ok (.invokevirtual 72, 3) := by decide +kernel
theorem dX8_readOne_49 : decode cX8_readOne 49 = .ok (.ifCond .eq 9, 3) := by decide +kernel
theorem dX8_readOne_52 : decode cX8_readOne 52 = .ok (.aload_n 0, 1) := by decide +kernel
theorem dX8_readOne_53 : decode cX8_readOne 53 = .ok (.iconst 2, 1) := by decide +kernel
theorem dX8_readOne_54 : decode cX8_readOne 54 = .ok (.invokevirtual 86, 3) := by decide +kernel
theorem dX8_readOne_57 : decode cX8_readOne 57 = .ok (.ireturn, 1) := by decide +kernel
theorem dX8_readOne_58 : decode cX8_readOne 58 = .ok (.aload_n 0, 1) := by decide +kernel
theorem dX8_readOne_59 : decode cX8_readOne 59 = .ok (.ldc 90, 2) := by decide +kernel
theorem dX8_readOne_61 : decode cX8_readOne 61 = .ok (.invokevirtual 72, 3) := by decide +kernel
theorem dX8_readOne_64 : decode cX8_readOne 64 = .ok (.ifCond .eq 9, 3) := by decide +kernel
theorem dX8_readOne_67 : decode cX8_readOne 67 = .ok (.aload_n 0, 1) := by decide +kernel
theorem dX8_readOne_68 : decode cX8_readOne 68 = .ok (.iconst 3, 1) := by decide +kernel
theorem dX8_readOne_69 : decode cX8_readOne 69 = .ok (.invokevirtual 86, 3) := by decide +kernel
theorem dX8_readOne_72 : decode cX8_readOne 72 = .ok (.ireturn, 1) := by decide +kernel
theorem dX8_readOne_73 : decode cX8_readOne 73 = .ok (.aload_n 0, 1) := by decide +kernel
theorem dX8_readOne_74 : decode cX8_readOne 74 = .ok (.invokevirtual 67, 3) := by decide +kernel
theorem dX8_readOne_77 : decode cX8_readOne 77 = .ok (.ireturn, 1) := by decide +kernel
theorem dX8_readSeparator_0 : decode cX8_readSeparator 0 = .ok (.aload_n 0, 1) := by decide +kernel
theorem dX8_readSeparator_1 : decode cX8_readSeparator 1 = .ok (.getfield 52, 3) := by decide +kernel
theorem dX8_readSeparator_4 : decode cX8_readSeparator 4 = .ok (.aload_n 0, 1) := by decide +kernel
theorem dX8_readSeparator_5 : decode cX8_readSeparator 5 = .ok (.getfield 42, 3) := by decide +kernel
theorem dX8_readSeparator_8 : decode cX8_readSeparator 8 = .ok (.if_icmp .ge 16, 3) := by decide +kernel
theorem dX8_readSeparator_11 : decode cX8_readSeparator 11 = .ok (.aload_n 0, 1) := by decide +kernel
theorem dX8_readSeparator_12 : decode cX8_readSeparator 12 = .ok (.ldc 92, 2) := by decide +kernel
theorem dX8_readSeparator_14 : decode cX8_readSeparator 14 = .ok (.invokevirtual 94, 3) := by decide +kernel
theorem dX8_readSeparator_17 : decode cX8_readSeparator 17 = .ok (.ifCond .eq 7, 3) := by decide +kernel
theorem dX8_readSeparator_20 : decode cX8_readSeparator 20 = .ok (.iconst 1, 1) := by decide +kernel
theorem dX8_readSeparator_21 : decode cX8_readSeparator 21 = .ok (.goto 4, 3) := by decide +kernel
theorem dX8_readSeparator_24 : decode cX8_readSeparator 24 = .ok (.iconst 0, 1) := by decide +kernel
theorem dX8_readSeparator_25 : decode cX8_readSeparator 25 = .ok (.ireturn, 1) := by decide +kernel
theorem dX8_readPart_0 : decode cX8_readPart 0 = .ok (.aload_n 0, 1) := by decide +kernel
theorem dX8_readPart_1 : decode cX8_readPart 1 = .ok (.iconst 0, 1) := by decide +kernel
theorem dX8_readPart_2 : decode cX8_readPart 2 = .ok (.sipush 10000, 3) := by decide +kernel
theorem dX8_readPart_5 : decode cX8_readPart 5 = .ok (.invokevirtual 97, 3) := by decide +kernel
theorem dX8_readPart_8 : decode cX8_readPart 8 = .ok (.istore_n 1, 1) := by decide +kernel
theorem dX8_readPart_9 : decode cX8_readPart 9 = .ok (.iload_n 1, 1) := by decide +kernel
theorem dX8_readPart_10 : decode cX8_readPart 10 = .ok (.iconst (-1), 1) := by decide +kernel
theorem dX8_readPart_11 : decode cX8_readPart 11 = .ok (.if_icmp .eq 12, 3) := by decide +kernel
theorem dX8_readPart_14 : decode cX8_readPart 14 = .ok (.aload_n 0, 1) := by decide +kernel
theorem dX8_readPart_15 : decode cX8_readPart 15 = .ok (.ldc 101, 2) := by decide +kernel
theorem dX8_readPart_17 : decode cX8_readPart 17 = .ok (.invokevirtual 94, 3) := by decide +kernel
theorem dX8_readPart_20 : decode cX8_readPart 20 = .ok (.ifCond .ne 5, 3) := by decide +kernel
theorem dX8_readPart_23 : decode cX8_readPart 23 = .ok (.iconst 0, 1) := by decide +kernel
theorem dX8_readPart_24 : decode cX8_readPart 24 = .ok (.ireturn, 1) := by decide +kernel
theorem dX8_readPart_25 : decode cX8_readPart 25 = .ok (.aload_n 0, 1) := by decide +kernel
theorem dX8_readPart_26 : decode cX8_readPart 26 = .ok (.iload_n 1, 1) := by decide +kernel
theorem dX8_readPart_27 : decode cX8_readPart 27 = .ok (.iconst 1, 1) := by decide +kernel
theorem dX8_readPart_28 : decode cX8_readPart 28 = .ok (.invokestatic 103, 3) := by decide +kernel
theorem dX8_readPart_31 : decode cX8_readPart 31 = .ok (.sipush 10000, 3) := by decide +kernel
theorem dX8_readPart_34 : decode cX8_readPart 34 = .ok (.invokevirtual 97, 3) := by decide +kernel
theorem dX8_readPart_37 : decode cX8_readPart 37 = .ok (.istore_n 2, 1) := by decide +kernel
theorem dX8_readPart_38 : decode cX8_readPart 38 = .ok (.iload_n 2, 1) := by decide +kernel
theorem dX8_readPart_39 : decode cX8_readPart 39 = .ok (.iconst (-1), 1) := by decide +kernel
theorem dX8_readPart_40 : decode cX8_readPart 40 = .ok (.if_icmp .ne 5, 3) := by decide +kernel
theorem dX8_readPart_43 : decode cX8_readPart 43 = .ok (.iconst 0, 1) := by decide +kernel
theorem dX8_readPart_44 : decode cX8_readPart 44 = .ok (.ireturn, 1) := by decide +kernel
theorem dX8_readPart_45 : decode cX8_readPart 45 = .ok (.aload_n 0, 1) := by decide +kernel
theorem dX8_readPart_46 : decode cX8_readPart 46 = .ok (.getfield 12, 3) := by decide +kernel
theorem dX8_readPart_49 : decode cX8_readPart 49 = .ok (.iconst 0, 1) := by decide +kernel
theorem dX8_readPart_50 : decode cX8_readPart 50 = .ok (.iload_n 1, 1) := by decide +kernel
theorem dX8_readPart_51 : decode cX8_readPart 51 = .ok (.iload_n 2, 1) := by decide +kernel
theorem dX8_readPart_52 : decode cX8_readPart 52 = .ok (.iconst 0, 1) := by decide +kernel
theorem dX8_readPart_53 : decode cX8_readPart 53 = .ok (.invokevirtual 108, 3) := by decide +kernel
theorem dX8_readPart_56 : decode cX8_readPart 56 = .ok (.iconst 1, 1) := by decide +kernel
theorem dX8_readPart_57 : decode cX8_readPart 57 = .ok (.ireturn, 1) := by decide +kernel
theorem dX8_readVines_0 : decode cX8_readVines 0 = .ok (.aload_n 0, 1) := by decide +kernel
theorem dX8_readVines_1 : decode cX8_readVines 1 = .ok (.iconst 1, 1) := by decide +kernel
theorem dX8_readVines_2 : decode cX8_readVines 2 = .ok (.sipush 10000, 3) := by decide +kernel
theorem dX8_readVines_5 : decode cX8_readVines 5 = .ok (.invokevirtual 97, 3) := by decide +kernel
theorem dX8_readVines_8 : decode cX8_readVines 8 = .ok (.istore_n 1, 1) := by decide +kernel
theorem dX8_readVines_9 : decode cX8_readVines 9 = .ok (.iload_n 1, 1) := by decide +kernel
theorem dX8_readVines_10 : decode cX8_readVines 10 = .ok (.iconst (-1), 1) := by decide +kernel
theorem dX8_readVines_11 : decode cX8_readVines 11 = .ok (.if_icmp .eq 12, 3) := by decide +kernel
theorem dX8_readVines_14 : decode cX8_readVines 14 = .ok (.aload_n 0, 1) := by decide +kernel
theorem dX8_readVines_15 : decode cX8_readVines 15 = .ok (.ldc 112, 2) := by decide +kernel
theorem dX8_readVines_17 : decode cX8_readVines 17 = .ok (.invokevirtual 94, 3) := by decide +kernel
theorem dX8_readVines_20 : decode cX8_readVines 20 = .ok (.ifCond .ne 5, 3) := by decide +kernel
theorem dX8_readVines_23 : decode cX8_readVines 23 = .ok (.iconst 0, 1) := by decide +kernel
theorem dX8_readVines_24 : decode cX8_readVines 24 = .ok (.ireturn, 1) := by decide +kernel
theorem dX8_readVines_25 : decode cX8_readVines 25 = .ok (.aload_n 0, 1) := by decide +kernel
theorem dX8_readVines_26 : decode cX8_readVines 26 = .ok (.iconst 0, 1) := by decide +kernel
theorem dX8_readVines_27 : decode cX8_readVines 27 = .ok (.sipush 10000, 3) := by decide +kernel
theorem dX8_readVines_30 : decode cX8_readVines 30 = .ok (.invokevirtual 97, 3) := by decide +kernel
theorem dX8_readVines_33 : decode cX8_readVines 33 = .ok (.istore_n 2, 1) := by decide +kernel
theorem dX8_readVines_34 : decode cX8_readVines 34 = .ok (.iload_n 2, 1) := by decide +kernel
theorem dX8_readVines_35 : decode cX8_readVines 35 = .ok (.iconst (-1), 1) := by decide +kernel
theorem dX8_readVines_36 : decode cX8_readVines 36 = .ok (.if_icmp .ne 5, 3) := by decide +kernel
theorem dX8_readVines_39 : decode cX8_readVines 39 = .ok (.iconst 0, 1) := by decide +kernel
theorem dX8_readVines_40 : decode cX8_readVines 40 = .ok (.ireturn, 1) := by decide +kernel
theorem dX8_readVines_41 : decode cX8_readVines 41 = .ok (.aload_n 0, 1) := by decide +kernel
theorem dX8_readVines_42 : decode cX8_readVines 42 = .ok (.ldc 114, 2) := by decide +kernel
theorem dX8_readVines_44 : decode cX8_readVines 44 = .ok (.invokevirtual 72, 3) := by decide +kernel
theorem dX8_readVines_47 : decode cX8_readVines 47 = .ok (.ifCond .eq 13, 3) := by decide +kernel
theorem dX8_readVines_50 : decode cX8_readVines 50 = .ok (.aload_n 0, 1) := by decide +kernel
theorem dX8_readVines_51 : decode cX8_readVines 51 = .ok (.iconst 0, 1) := by decide +kernel
theorem dX8_readVines_52 : decode cX8_readVines 52 = .ok (.bipush 24, 2) := by decide +kernel
theorem dX8_readVines_54 : decode cX8_readVines 54 = .ok (.invokevirtual 97, 3) := by decide +kernel
theorem dX8_readVines_57 : decode cX8_readVines 57 = .ok (.goto 4, 3) := by decide +kernel
theorem dX8_readVines_60 : decode cX8_readVines 60 = .ok (.iconst 0, 1) := by decide +kernel
theorem dX8_readVines_61 : decode cX8_readVines 61 = .ok (.istore_n 3, 1) := by decide +kernel
theorem dX8_readVines_62 : decode cX8_readVines 62 = .ok (.iload_n 3, 1) := by decide +kernel
theorem dX8_readVines_63 : decode cX8_readVines 63 = .ok (.iconst (-1), 1) := by decide +kernel
theorem dX8_readVines_64 : decode cX8_readVines 64 = .ok (.if_icmp .ne 5, 3) := by decide +kernel
theorem dX8_readVines_67 : decode cX8_readVines 67 = .ok (.iconst 0, 1) := by decide +kernel
theorem dX8_readVines_68 : decode cX8_readVines 68 = .ok (.ireturn, 1) := by decide +kernel
theorem dX8_readVines_69 : decode cX8_readVines 69 = .ok (.aload_n 0, 1) := by decide +kernel
theorem dX8_readVines_70 : decode cX8_readVines 70 = .ok (.getfield 12, 3) := by decide +kernel
theorem dX8_readVines_73 : decode cX8_readVines 73 = .ok (.iconst 1, 1) := by decide +kernel
theorem dX8_readVines_74 : decode cX8_readVines 74 = .ok (.iload_n 1, 1) := by decide +kernel
theorem dX8_readVines_75 : decode cX8_readVines 75 = .ok (.iload_n 2, 1) := by decide +kernel
theorem dX8_readVines_76 : decode cX8_readVines 76 = .ok (.iload_n 3, 1) := by decide +kernel
theorem dX8_readVines_77 : decode cX8_readVines 77 = .ok (.invokevirtual 108, 3) := by decide +kernel
theorem dX8_readVines_80 : decode cX8_readVines 80 = .ok (.iconst 1, 1) := by decide +kernel
theorem dX8_readVines_81 : decode cX8_readVines 81 = .ok (.ireturn, 1) := by decide +kernel
theorem dX8_readSingle_0 : decode cX8_readSingle 0 = .ok (.aload_n 0, 1) := by decide +kernel
theorem dX8_readSingle_1 : decode cX8_readSingle 1 = .ok (.iconst 0, 1) := by decide +kernel
theorem dX8_readSingle_2 : decode cX8_readSingle 2 = .ok (.sipush 10000, 3) := by decide +kernel
theorem dX8_readSingle_5 : decode cX8_readSingle 5 = .ok (.invokevirtual 97, 3) := by decide +kernel
theorem dX8_readSingle_8 : decode cX8_readSingle 8 = .ok (.istore_n 2, 1) := by decide +kernel
theorem dX8_readSingle_9 : decode cX8_readSingle 9 = .ok (.iload_n 2, 1) := by decide +kernel
theorem dX8_readSingle_10 : decode cX8_readSingle 10 = .ok (.iconst (-1), 1) := by decide +kernel
theorem dX8_readSingle_11 : decode cX8_readSingle 11 = .ok (.if_icmp .ne 5, 3) := by decide +kernel
theorem dX8_readSingle_14 : decode cX8_readSingle 14 = .ok (.iconst 0, 1) := by decide +kernel
theorem dX8_readSingle_15 : decode cX8_readSingle 15 = .ok (.ireturn, 1) := by decide +kernel
theorem dX8_readSingle_16 : decode cX8_readSingle 16 = .ok (.aload_n 0, 1) := by decide +kernel
theorem dX8_readSingle_17 : decode cX8_readSingle 17 = .ok (.getfield 12, 3) := by decide +kernel
theorem dX8_readSingle_20 : decode cX8_readSingle 20 = .ok (.iload_n 1, 1) := by decide +kernel
theorem dX8_readSingle_21 : decode cX8_readSingle 21 = .ok (.iload_n 2, 1) := by decide +kernel
theorem dX8_readSingle_22 : decode cX8_readSingle 22 = .ok (.iconst 0, 1) := by decide +kernel
theorem dX8_readSingle_23 : decode cX8_readSingle 23 = .ok (.iconst 0, 1) := by decide +kernel
theorem dX8_readSingle_24 : decode cX8_readSingle 24 = .ok (.invokevirtual 108, 3) := by decide +kernel
theorem dX8_readSingle_27 : decode cX8_readSingle 27 = .ok (.iconst 1, 1) := by decide +kernel
theorem dX8_readSingle_28 : decode cX8_readSingle 28 = .ok (.ireturn, 1) := by decide +kernel
theorem dX8_readNumber_0 : decode cX8_readNumber 0 = .ok (.aload_n 0, 1) := by decide +kernel
theorem dX8_readNumber_1 : decode cX8_readNumber 1 = .ok (.invokevirtual 116, 3) := by decide +kernel
theorem dX8_readNumber_4 : decode cX8_readNumber 4 = .ok (.istore_n 3, 1) := by decide +kernel
theorem dX8_readNumber_5 : decode cX8_readNumber 5 = .ok (.iload_n 3, 1) := by decide +kernel
theorem dX8_readNumber_6 : decode cX8_readNumber 6 = .ok (.iload_n 1, 1) := by decide +kernel
theorem dX8_readNumber_7 : decode cX8_readNumber 7 = .ok (.if_icmp .lt 8, 3) := by decide +kernel
theorem dX8_readNumber_10 : decode cX8_readNumber 10 = .ok (.iload_n 3, 1) := by decide +kernel
theorem dX8_readNumber_11 : decode cX8_readNumber 11 = .ok (.iload_n 2, 1) := by decide +kernel
theorem dX8_readNumber_12 : decode cX8_readNumber 12 = .ok (.if_icmp .le 10, 3) := by decide +kernel
theorem dX8_readNumber_15 : decode cX8_readNumber 15 = .ok (.aload_n 0, 1) := by decide +kernel
theorem dX8_readNumber_16 : decode cX8_readNumber 16 = .ok (.invokevirtual 67, 3) := by decide +kernel
theorem dX8_readNumber_19 : decode cX8_readNumber 19 = .ok (.pop, 1) := by decide +kernel
theorem dX8_readNumber_20 : decode cX8_readNumber 20 = .ok (.iconst (-1), 1) := by decide +kernel
theorem dX8_readNumber_21 : decode cX8_readNumber 21 = .ok (.ireturn, 1) := by decide +kernel
theorem dX8_readNumber_22 : decode cX8_readNumber 22 = .ok (.aload_n 0, 1) := by decide +kernel
theorem dX8_readNumber_23 : decode cX8_readNumber 23 = .ok (.dup, 1) := by decide +kernel
theorem dX8_readNumber_24 : decode cX8_readNumber 24 = .ok (.getfield 52, 3) := by decide +kernel
theorem dX8_readNumber_27 : decode cX8_readNumber 27 = .ok (.iconst 1, 1) := by decide +kernel
theorem dX8_readNumber_28 : decode cX8_readNumber 28 = .ok (.iadd, 1) := by decide +kernel
theorem dX8_readNumber_29 : decode cX8_readNumber 29 = .ok (.putfield 52, 3) := by decide +kernel
theorem dX8_readNumber_32 : decode cX8_readNumber 32 = .ok (.iload_n 3, 1) := by decide +kernel
theorem dX8_readNumber_33 : decode cX8_readNumber 33 = .ok (.ireturn, 1) := by decide +kernel
theorem dX8_numberHere_0 : decode cX8_numberHere 0 = .ok (.aload_n 0, 1) := by decide +kernel
theorem dX8_numberHere_1 : decode cX8_numberHere 1 = .ok (.getfield 52, 3) := by decide +kernel
theorem dX8_numberHere_4 : decode cX8_numberHere 4 = .ok (.aload_n 0, 1) := by decide +kernel
theorem dX8_numberHere_5 : decode cX8_numberHere 5 = .ok (.getfield 42, 3) := by decide +kernel
theorem dX8_numberHere_8 : decode cX8_numberHere 8 = .ok (.if_icmp .ge 16, 3) := by decide +kernel
theorem dX8_numberHere_11 : decode cX8_numberHere 11 = .ok (.aload_n 0, 1) := by decide +kernel
theorem dX8_numberHere_12 : decode cX8_numberHere 12 = .ok (.getfield 29, 3) := by decide +kernel
theorem dX8_numberHere_15 : decode cX8_numberHere 15 = .ok (.aload_n 0, 1) := by decide +kernel
theorem dX8_numberHere_16 : decode cX8_numberHere 16 = .ok (.getfield 52, 3) := by decide +kernel
theorem dX8_numberHere_19 : decode cX8_numberHere 19 = .ok (.iaload, 1) := by decide +kernel
theorem dX8_numberHere_20 : decode cX8_numberHere 20 = .ok (.iconst 2, 1) := by decide +kernel
theorem dX8_numberHere_21 : decode cX8_numberHere 21 = .ok (.if_icmp .eq 5, 3) := by decide +kernel
theorem dX8_numberHere_24 : decode cX8_numberHere 24 = .ok (.iconst (-1), 1) := by decide +kernel
theorem dX8_numberHere_25 : decode cX8_numberHere 25 = .ok (.ireturn, 1) := by decide +kernel
theorem dX8_numberHere_26 : decode cX8_numberHere 26 = .ok (.iconst 0, 1) := by decide +kernel
theorem dX8_numberHere_27 : decode cX8_numberHere 27 = .ok (.istore_n 1, 1) := by decide +kernel
theorem dX8_numberHere_28 : decode cX8_numberHere 28 = .ok (.aload_n 0, 1) := by decide +kernel
theorem dX8_numberHere_29 : decode cX8_numberHere 29 = .ok (.getfield 22, 3) := by decide +kernel
theorem dX8_numberHere_32 : decode cX8_numberHere 32 = .ok (.aload_n 0, 1) := by decide +kernel
theorem dX8_numberHere_33 : decode cX8_numberHere 33 = .ok (.getfield 52, 3) := by decide +kernel
theorem dX8_numberHere_36 : decode cX8_numberHere 36 = .ok (.iaload, 1) := by decide +kernel
theorem dX8_numberHere_37 : decode cX8_numberHere 37 = .ok (.istore_n 2, 1) := by decide +kernel
theorem dX8_numberHere_38 : decode cX8_numberHere 38 = .ok (.iload_n 2, 1) := by decide +kernel
theorem dX8_numberHere_39 : decode cX8_numberHere 39 = .ok (.aload_n 0, 1) := by decide +kernel
theorem dX8_numberHere_40 : decode cX8_numberHere 40 = .ok (.getfield 26, 3) := by decide +kernel
theorem dX8_numberHere_43 : decode cX8_numberHere 43 = .ok (.aload_n 0, 1) := by decide +kernel
theorem dX8_numberHere_44 : decode cX8_numberHere 44 = .ok (.getfield 52, 3) := by decide +kernel
theorem dX8_numberHere_47 : decode cX8_numberHere 47 = .ok (.iaload, 1) := by decide +kernel
theorem dX8_numberHere_48 : decode cX8_numberHere 48 = .ok (.if_icmp .ge 32, 3) := by decide +kernel
theorem dX8_numberHere_51 : decode cX8_numberHere 51 = .ok (.iload_n 1, 1) := by decide +kernel
theorem dX8_numberHere_52 : decode cX8_numberHere 52 = .ok (.bipush 10, 2) := by decide +kernel
theorem dX8_numberHere_54 : decode cX8_numberHere 54 = .ok (.imul, 1) := by decide +kernel
theorem dX8_numberHere_55 : decode cX8_numberHere 55 = .ok (.aload_n 0, 1) := by decide +kernel
theorem dX8_numberHere_56 : decode cX8_numberHere 56 = .ok (.getfield 32, 3) := by decide +kernel
theorem dX8_numberHere_59 : decode cX8_numberHere 59 = .ok (.iload_n 2, 1) := by decide +kernel
theorem dX8_numberHere_60 : decode cX8_numberHere 60 = .ok (.invokevirtual 120, 3) := by decide +kernel
theorem dX8_numberHere_63 : decode cX8_numberHere 63 = .ok (.iadd, 1) := by decide +kernel
theorem dX8_numberHere_64 : decode cX8_numberHere 64 = .ok (.bipush 48, 2) := by decide +kernel
theorem dX8_numberHere_66 : decode cX8_numberHere 66 = .ok (.isub, 1) := by decide +kernel
theorem dX8_numberHere_67 : decode cX8_numberHere 67 = .ok (.sipush 10001, 3) := by decide +kernel
theorem dX8_numberHere_70 : decode cX8_numberHere 70 = .ok (.invokestatic 123, 3) := by decide +kernel
theorem dX8_numberHere_73 : decode cX8_numberHere 73 = .ok (.istore_n 1, 1) := by decide +kernel
theorem dX8_numberHere_74 : decode cX8_numberHere 74 = .ok (.iinc 2 1, 3) := by decide +kernel
theorem dX8_numberHere_77 : decode cX8_numberHere 77 = .ok (.goto (-39), 3) := by decide +kernel
theorem dX8_numberHere_80 : decode cX8_numberHere 80 = .ok (.iload_n 1, 1) := by decide +kernel
theorem dX8_numberHere_81 : decode cX8_numberHere 81 = .ok (.ireturn, 1) := by decide +kernel
theorem dX8_needsWord_0 : decode cX8_needsWord 0 = .ok (.aload_n 0, 1) := by decide +kernel
theorem dX8_needsWord_1 : decode cX8_needsWord 1 = .ok (.aload_n 1, 1) := by decide +kernel
theorem dX8_needsWord_2 : decode cX8_needsWord 2 = .ok (.invokevirtual 72, 3) := by decide +kernel
theorem dX8_needsWord_5 : decode cX8_needsWord 5 = .ok (.ifCond .ne 10, 3) := by decide +kernel
theorem dX8_needsWord_8 : decode cX8_needsWord 8 = .ok (.aload_n 0, 1) := by decide +kernel
theorem dX8_needsWord_9 : decode cX8_needsWord 9 = .ok (.invokevirtual 67, 3) := by decide +kernel
theorem dX8_needsWord_12 : decode cX8_needsWord 12 = .ok (.ifCond .eq 7, 3) := by decide +kernel
theorem dX8_needsWord_15 : decode cX8_needsWord 15 = .ok (.iconst 1, 1) := by decide +kernel
theorem dX8_needsWord_16 : decode cX8_needsWord 16 = .ok (.goto 4, 3) := by decide +kernel
theorem dX8_needsWord_19 : decode cX8_needsWord 19 = .ok (.iconst 0, 1) := by decide +kernel
theorem dX8_needsWord_20 : decode cX8_needsWord 20 = .ok (.ireturn, 1) := by decide +kernel
theorem dX8_skipsWord_0 : decode cX8_skipsWord 0 = .ok (.aload_n 0, 1) := by decide +kernel
theorem dX8_skipsWord_1 : decode cX8_skipsWord 1 = .ok (.getfield 52, 3) := by decide +kernel
theorem dX8_skipsWord_4 : decode cX8_skipsWord 4 = .ok (.aload_n 0, 1) := by decide +kernel
theorem dX8_skipsWord_5 : decode cX8_skipsWord 5 = .ok (.getfield 42, 3) := by decide +kernel
theorem dX8_skipsWord_8 : decode cX8_skipsWord 8 = .ok (.if_icmp .ge 29, 3) := by decide +kernel
theorem dX8_skipsWord_11 : decode cX8_skipsWord 11 = .ok (.aload_n 0, 1) := by decide +kernel
theorem dX8_skipsWord_12 : decode cX8_skipsWord 12 = .ok (.getfield 26, 3) := by decide +kernel
theorem dX8_skipsWord_15 : decode cX8_skipsWord 15 = .ok (.aload_n 0, 1) := by decide +kernel
theorem dX8_skipsWord_16 : decode cX8_skipsWord 16 = .ok (.getfield 52, 3) := by decide +kernel
theorem dX8_skipsWord_19 : decode cX8_skipsWord 19 = .ok (.iaload, 1) := by decide +kernel
theorem dX8_skipsWord_20 : decode cX8_skipsWord 20 = .ok (.aload_n 0, 1) := by decide +kernel
theorem dX8_skipsWord_21 : decode cX8_skipsWord 21 = .ok (.getfield 22, 3) := by decide +kernel
theorem dX8_skipsWord_24 : decode cX8_skipsWord 24 = .ok (.aload_n 0, 1) := by decide +kernel
theorem dX8_skipsWord_25 : decode cX8_skipsWord 25 = .ok (.getfield 52, 3) := by decide +kernel
theorem dX8_skipsWord_28 : decode cX8_skipsWord 28 = .ok (.iaload, 1) := by decide +kernel
theorem dX8_skipsWord_29 : decode cX8_skipsWord 29 = .ok (.isub, 1) := by decide +kernel
theorem dX8_skipsWord_30 : decode cX8_skipsWord 30 = .ok (.aload_n 1, 1) := by decide +kernel
theorem dX8_skipsWord_31 : decode cX8_skipsWord 31 = .ok (.invokevirtual 126, 3) := by decide +kernel
theorem dX8_skipsWord_34 : decode cX8_skipsWord 34 = .ok (.if_icmp .eq 5, 3) := by decide +kernel
theorem dX8_skipsWord_37 : decode cX8_skipsWord 37 = .ok (.iconst 0, 1) := by decide +kernel
theorem dX8_skipsWord_38 : decode cX8_skipsWord 38 = .ok (.ireturn, 1) := by decide +kernel
theorem dX8_skipsWord_39 : decode cX8_skipsWord 39 = .ok (.iconst 0, 1) := by decide +kernel
theorem dX8_skipsWord_40 : decode cX8_skipsWord 40 = .ok (.istore_n 2, 1) := by decide +kernel
theorem dX8_skipsWord_41 : decode cX8_skipsWord 41 = .ok (.iload_n 2, 1) := by decide +kernel
theorem dX8_skipsWord_42 : decode cX8_skipsWord 42 = .ok (.aload_n 1, 1) := by decide +kernel
theorem dX8_skipsWord_43 : decode cX8_skipsWord 43 = .ok (.invokevirtual 126, 3) := by decide +kernel
theorem dX8_skipsWord_46 : decode cX8_skipsWord 46 = .ok (.if_icmp .ge 37, 3) := by decide +kernel
theorem dX8_skipsWord_49 : decode cX8_skipsWord 49 = .ok (.aload_n 0, 1) := by decide +kernel
theorem dX8_skipsWord_50 : decode cX8_skipsWord 50 = .ok (.getfield 32, 3) := by decide +kernel
theorem dX8_skipsWord_53 : decode cX8_skipsWord 53 = .ok (.aload_n 0, 1) := by decide +kernel
theorem dX8_skipsWord_54 : decode cX8_skipsWord 54 = .ok (.getfield 22, 3) := by decide +kernel
theorem dX8_skipsWord_57 : decode cX8_skipsWord 57 = .ok (.aload_n 0, 1) := by decide +kernel
theorem dX8_skipsWord_58 : decode cX8_skipsWord 58 = .ok (.getfield 52, 3) := by decide +kernel
theorem dX8_skipsWord_61 : decode cX8_skipsWord 61 = .ok (.iaload, 1) := by decide +kernel
theorem dX8_skipsWord_62 : decode cX8_skipsWord 62 = .ok (.iload_n 2, 1) := by decide +kernel
theorem dX8_skipsWord_63 : decode cX8_skipsWord 63 = .ok (.iadd, 1) := by decide +kernel
theorem dX8_skipsWord_64 : decode cX8_skipsWord 64 = .ok (.invokevirtual 120, 3) := by decide +kernel
theorem dX8_skipsWord_67 : decode cX8_skipsWord 67 = .ok (.aload_n 1, 1) := by decide +kernel
theorem dX8_skipsWord_68 : decode cX8_skipsWord 68 = .ok (.iload_n 2, 1) := by decide +kernel
theorem dX8_skipsWord_69 : decode cX8_skipsWord 69 = .ok (.invokevirtual 130, 3) := by decide +kernel
theorem dX8_skipsWord_72 : decode cX8_skipsWord 72 = .ok (.if_icmp .eq 5, 3) := by decide +kernel
theorem dX8_skipsWord_75 : decode cX8_skipsWord 75 = .ok (.iconst 0, 1) := by decide +kernel
theorem dX8_skipsWord_76 : decode cX8_skipsWord 76 = .ok (.ireturn, 1) := by decide +kernel
theorem dX8_skipsWord_77 : decode cX8_skipsWord 77 = .ok (.iinc 2 1, 3) := by decide +kernel
theorem dX8_skipsWord_80 : decode cX8_skipsWord 80 = .ok (.goto (-39), 3) := by decide +kernel
theorem dX8_skipsWord_83 : decode cX8_skipsWord 83 = .ok (.aload_n 0, 1) := by decide +kernel
theorem dX8_skipsWord_84 : decode cX8_skipsWord 84 = .ok (.dup, 1) := by decide +kernel
theorem dX8_skipsWord_85 : decode cX8_skipsWord 85 = .ok (.getfield 52, 3) := by decide +kernel
theorem dX8_skipsWord_88 : decode cX8_skipsWord 88 = .ok (.iconst 1, 1) := by decide +kernel
theorem dX8_skipsWord_89 : decode cX8_skipsWord 89 = .ok (.iadd, 1) := by decide +kernel
theorem dX8_skipsWord_90 : decode cX8_skipsWord 90 = .ok (.putfield 52, 3) := by decide +kernel
theorem dX8_skipsWord_93 : decode cX8_skipsWord 93 = .ok (.iconst 1, 1) := by decide +kernel
theorem dX8_skipsWord_94 : decode cX8_skipsWord 94 = .ok (.ireturn, 1) := by decide +kernel
theorem dX8_wrongHere_0 : decode cX8_wrongHere 0 = .ok (.aload_n 0, 1) := by decide +kernel
theorem dX8_wrongHere_1 : decode cX8_wrongHere 1 = .ok (.aload_n 0, 1) := by decide +kernel
theorem dX8_wrongHere_2 : decode cX8_wrongHere 2 = .ok (.getfield 52, 3) := by decide +kernel
theorem dX8_wrongHere_5 : decode cX8_wrongHere 5 = .ok (.aload_n 0, 1) := by decide +kernel
theorem dX8_wrongHere_6 : decode cX8_wrongHere 6 = .ok (.getfield 42, 3) := by decide +kernel
theorem dX8_wrongHere_9 : decode cX8_wrongHere 9 = .ok (.if_icmp .ge 15, 3) := by decide +kernel
theorem dX8_wrongHere_12 : decode cX8_wrongHere 12 = .ok (.aload_n 0, 1) := by decide +kernel
theorem dX8_wrongHere_13 : decode cX8_wrongHere 13 = .ok (.getfield 22, 3) := by decide +kernel
theorem dX8_wrongHere_16 : decode cX8_wrongHere 16 = .ok (.aload_n 0, 1) := by decide +kernel
theorem dX8_wrongHere_17 : decode cX8_wrongHere 17 = .ok (.getfield 52, 3) := by decide +kernel
theorem dX8_wrongHere_20 : decode cX8_wrongHere 20 = .ok (.iaload, 1) := by decide +kernel
theorem dX8_wrongHere_21 : decode cX8_wrongHere 21 = .ok (.goto 10, 3) := by decide +kernel
theorem dX8_wrongHere_24 : decode cX8_wrongHere 24 = .ok (.aload_n 0, 1) := by decide +kernel
theorem dX8_wrongHere_25 : decode cX8_wrongHere 25 = .ok (.getfield 32, 3) := by decide +kernel
theorem dX8_wrongHere_28 : decode cX8_wrongHere 28 = .ok (.getfield 57, 3) := by decide +kernel
theorem dX8_wrongHere_31 : decode cX8_wrongHere 31 = .ok (.putfield 18, 3) := by decide +kernel
theorem dX8_wrongHere_34 : decode cX8_wrongHere 34 = .ok (.iconst 0, 1) := by decide +kernel
theorem dX8_wrongHere_35 : decode cX8_wrongHere 35 = .ok (.ireturn, 1) := by decide +kernel
theorem dX9_init_0 : decode cX9_init 0 = .ok (.aload_n 0, 1) := by decide +kernel
theorem dX9_init_1 : decode cX9_init 1 = .ok (.invokespecial 3, 3) := by decide +kernel
theorem dX9_init_4 : decode cX9_init 4 = .ok (.aload_n 0, 1) := by decide +kernel
theorem dX9_init_5 : decode cX9_init 5 = .ok (.bipush 20, 2) := by decide +kernel
theorem dX9_init_7 : decode cX9_init 7 = .ok (.newarray .int, 2) := by decide +kernel
theorem dX9_init_9 : decode cX9_init 9 = .ok (.putfield 9, 3) := by decide +kernel
theorem dX9_init_12 : decode cX9_init 12 = .ok (.aload_n 0, 1) := by decide +kernel
theorem dX9_init_13 : decode cX9_init 13 = .ok (.bipush 20, 2) := by decide +kernel
theorem dX9_init_15 : decode cX9_init 15 = .ok (.newarray .int, 2) := by decide +kernel
theorem dX9_init_17 : decode cX9_init 17 = .ok (.putfield 15, 3) := by decide +kernel
theorem dX9_init_20 : decode cX9_init 20 = .ok (.aload_n 0, 1) := by decide +kernel
theorem dX9_init_21 : decode cX9_init 21 = .ok (.bipush 20, 2) := by decide +kernel
theorem dX9_init_23 : decode cX9_init 23 = .ok (.newarray .int, 2) := by decide +kernel
theorem dX9_init_25 : decode cX9_init 25 = .ok (.putfield 18, 3) := by decide +kernel
theorem dX9_init_28 : decode cX9_init 28 = .ok (.aload_n 0, 1) := by decide +kernel
theorem dX9_init_29 : decode cX9_init 29 = .ok (.bipush 20, 2) := by decide +kernel
theorem dX9_init_31 : decode cX9_init 31 = .ok (.newarray .int, 2) := by decide +kernel
theorem dX9_init_33 : decode cX9_init 33 = .ok (.putfield 21, 3) := by decide +kernel
theorem dX9_init_36 : decode cX9_init 36 = .ok (.return_, 1) := by decide +kernel
theorem dX9_isFull_0 : decode cX9_isFull 0 = .ok (.aload_n 0, 1) := by decide +kernel
theorem dX9_isFull_1 : decode cX9_isFull 1 = .ok (.getfield 24, 3) := by decide +kernel
theorem dX9_isFull_4 : decode cX9_isFull 4 = .ok (.bipush 20, 2) := by decide +kernel
theorem dX9_isFull_6 : decode cX9_isFull 6 = .ok (.if_icmp .lt 7, 3) := by decide +kernel
theorem dX9_isFull_9 : decode cX9_isFull 9 = .ok (.iconst 1, 1) := by decide +kernel
theorem dX9_isFull_10 : decode cX9_isFull 10 = .ok (.goto 4, 3) := by decide +kernel
theorem dX9_isFull_13 : decode cX9_isFull 13 = .ok (.iconst 0, 1) := by decide +kernel
theorem dX9_isFull_14 : decode cX9_isFull 14 = .ok (.ireturn, 1) := by decide +kernel
theorem dX9_put_0 : decode cX9_put 0 = .ok (.aload_n 0, 1) := by decide +kernel
theorem dX9_put_1 : decode cX9_put 1 = .ok (.invokevirtual 28, 3) := by decide +kernel
theorem dX9_put_4 : decode cX9_put 4 = .ok (.ifCond .eq 4, 3) := by decide +kernel
theorem dX9_put_7 : decode cX9_put 7 = .ok (.return_, 1) := by decide +kernel
theorem dX9_put_8 : decode cX9_put 8 = .ok (.aload_n 0, 1) := by decide +kernel
theorem dX9_put_9 : decode cX9_put 9 = .ok (.getfield 9, 3) := by decide +kernel
theorem dX9_put_12 : decode cX9_put 12 = .ok (.aload_n 0, 1) := by decide +kernel
theorem dX9_put_13 : decode cX9_put 13 = .ok (.getfield 24, 3) := by decide +kernel
theorem dX9_put_16 : decode cX9_put 16 = .ok (.iload_n 1, 1) := by decide +kernel
theorem dX9_put_17 : decode cX9_put 17 = .ok (.iastore, 1) := by decide +kernel
theorem dX9_put_18 : decode cX9_put 18 = .ok (.aload_n 0, 1) := by decide +kernel
theorem dX9_put_19 : decode cX9_put 19 = .ok (.getfield 15, 3) := by decide +kernel
theorem dX9_put_22 : decode cX9_put 22 = .ok (.aload_n 0, 1) := by decide +kernel
theorem dX9_put_23 : decode cX9_put 23 = .ok (.getfield 24, 3) := by decide +kernel
theorem dX9_put_26 : decode cX9_put 26 = .ok (.iload_n 2, 1) := by decide +kernel
theorem dX9_put_27 : decode cX9_put 27 = .ok (.iastore, 1) := by decide +kernel
theorem dX9_put_28 : decode cX9_put 28 = .ok (.aload_n 0, 1) := by decide +kernel
theorem dX9_put_29 : decode cX9_put 29 = .ok (.getfield 18, 3) := by decide +kernel
theorem dX9_put_32 : decode cX9_put 32 = .ok (.aload_n 0, 1) := by decide +kernel
theorem dX9_put_33 : decode cX9_put 33 = .ok (.getfield 24, 3) := by decide +kernel
theorem dX9_put_36 : decode cX9_put 36 = .ok (.iload_n 3, 1) := by decide +kernel
theorem dX9_put_37 : decode cX9_put 37 = .ok (.iastore, 1) := by decide +kernel
theorem dX9_put_38 : decode cX9_put 38 = .ok (.aload_n 0, 1) := by decide +kernel
theorem dX9_put_39 : decode cX9_put 39 = .ok (.getfield 21, 3) := by decide +kernel
theorem dX9_put_42 : decode cX9_put 42 = .ok (.aload_n 0, 1) := by decide +kernel
theorem dX9_put_43 : decode cX9_put 43 = .ok (.getfield 24, 3) := by decide +kernel
theorem dX9_put_46 : decode cX9_put 46 = .ok (.iload 4, 2) := by decide +kernel
theorem dX9_put_48 : decode cX9_put 48 = .ok (.iastore, 1) := by decide +kernel
theorem dX9_put_49 : decode cX9_put 49 = .ok (.aload_n 0, 1) := by decide +kernel
theorem dX9_put_50 : decode cX9_put 50 = .ok (.dup, 1) := by decide +kernel
theorem dX9_put_51 : decode cX9_put 51 = .ok (.getfield 24, 3) := by decide +kernel
theorem dX9_put_54 : decode cX9_put 54 = .ok (.iconst 1, 1) := by decide +kernel
theorem dX9_put_55 : decode cX9_put 55 = .ok (.iadd, 1) := by decide +kernel
theorem dX9_put_56 : decode cX9_put 56 = .ok (.putfield 24, 3) := by decide +kernel
theorem dX9_put_59 : decode cX9_put 59 = .ok (.return_, 1) := by decide +kernel
theorem dX9_become_0 : decode cX9_become 0 = .ok (.aload_n 1, 1) := by decide +kernel
theorem dX9_become_1 : decode cX9_become 1 = .ok (.getfield 9, 3) := by decide +kernel
theorem dX9_become_4 : decode cX9_become 4 = .ok (.iconst 0, 1) := by decide +kernel
theorem dX9_become_5 : decode cX9_become 5 = .ok (.aload_n 0, 1) := by decide +kernel
theorem dX9_become_6 : decode cX9_become 6 = .ok (.getfield 9, 3) := by decide +kernel
theorem dX9_become_9 : decode cX9_become 9 = .ok (.iconst 0, 1) := by decide +kernel
theorem dX9_become_10 : decode cX9_become 10 = .ok (.bipush 20, 2) := by decide +kernel
theorem dX9_become_12 : decode cX9_become 12 = .ok (.invokestatic 32, 3) := by decide +kernel
theorem dX9_become_15 : decode cX9_become 15 = .ok (.aload_n 1, 1) := by decide +kernel
theorem dX9_become_16 : decode cX9_become 16 = .ok (.getfield 15, 3) := by decide +kernel
theorem dX9_become_19 : decode cX9_become 19 = .ok (.iconst 0, 1) := by decide +kernel
theorem dX9_become_20 : decode cX9_become 20 = .ok (.aload_n 0, 1) := by decide +kernel
theorem dX9_become_21 : decode cX9_become 21 = .ok (.getfield 15, 3) := by decide +kernel
theorem dX9_become_24 : decode cX9_become 24 = .ok (.iconst 0, 1) := by decide +kernel
theorem dX9_become_25 : decode cX9_become 25 = .ok (.bipush 20, 2) := by decide +kernel
theorem dX9_become_27 : decode cX9_become 27 = .ok (.invokestatic 32, 3) := by decide +kernel
theorem dX9_become_30 : decode cX9_become 30 = .ok (.aload_n 1, 1) := by decide +kernel
theorem dX9_become_31 : decode cX9_become 31 = .ok (.getfield 18, 3) := by decide +kernel
theorem dX9_become_34 : decode cX9_become 34 = .ok (.iconst 0, 1) := by decide +kernel
theorem dX9_become_35 : decode cX9_become 35 = .ok (.aload_n 0, 1) := by decide +kernel
theorem dX9_become_36 : decode cX9_become 36 = .ok (.getfield 18, 3) := by decide +kernel
theorem dX9_become_39 : decode cX9_become 39 = .ok (.iconst 0, 1) := by decide +kernel
theorem dX9_become_40 : decode cX9_become 40 = .ok (.bipush 20, 2) := by decide +kernel
theorem dX9_become_42 : decode cX9_become 42 = .ok (.invokestatic 32, 3) := by decide +kernel
theorem dX9_become_45 : decode cX9_become 45 = .ok (.aload_n 1, 1) := by decide +kernel
theorem dX9_become_46 : decode cX9_become 46 = .ok (.getfield 21, 3) := by decide +kernel
theorem dX9_become_49 : decode cX9_become 49 = .ok (.iconst 0, 1) := by decide +kernel
theorem dX9_become_50 : decode cX9_become 50 = .ok (.aload_n 0, 1) := by decide +kernel
theorem dX9_become_51 : decode cX9_become 51 = .ok (.getfield 21, 3) := by decide +kernel
theorem dX9_become_54 : decode cX9_become 54 = .ok (.iconst 0, 1) := by decide +kernel
theorem dX9_become_55 : decode cX9_become 55 = .ok (.bipush 20, 2) := by decide +kernel
theorem dX9_become_57 : decode cX9_become 57 = .ok (.invokestatic 32, 3) := by decide +kernel
theorem dX9_become_60 : decode cX9_become 60 = .ok (.aload_n 0, 1) := by decide +kernel
theorem dX9_become_61 : decode cX9_become 61 = .ok (.aload_n 1, 1) := by decide +kernel
theorem dX9_become_62 : decode cX9_become 62 = .ok (.getfield 24, 3) := by decide +kernel
theorem dX9_become_65 : decode cX9_become 65 = .ok (.putfield 24, 3) := by decide +kernel
theorem dX9_become_68 : decode cX9_become 68 = .ok (.return_, 1) := by decide +kernel
theorem dX9_dueFrom_0 : decode cX9_dueFrom 0 = .ok (.lconst 0, 1) := by decide +kernel
theorem dX9_dueFrom_1 : decode cX9_dueFrom 1 = .ok (.lstore 4, 2) := by decide +kernel
theorem dX9_dueFrom_3 : decode cX9_dueFrom 3 = .ok (.iconst 0, 1) := by decide +kernel
theorem dX9_dueFrom_4 : decode cX9_dueFrom 4 = .ok (.istore 6, 2) := by decide +kernel
theorem dX9_dueFrom_6 : decode cX9_dueFrom 6 = .ok (.iconst 0, 1) := by decide +kernel
theorem dX9_dueFrom_7 : decode cX9_dueFrom 7 = .ok (.istore 7, 2) := by decide +kernel
theorem dX9_dueFrom_9 : decode cX9_dueFrom 9 = .ok (.iload 7, 2) := by decide +kernel
theorem dX9_dueFrom_11 : decode cX9_dueFrom 11 = .ok (.aload_n 0, 1) := by decide +kernel
theorem dX9_dueFrom_12 : decode cX9_dueFrom 12 = .ok (.getfield 24, 3) := by decide +kernel
theorem dX9_dueFrom_15 : decode cX9_dueFrom 15 = .ok (.if_icmp .ge 137, 3) := by decide +kernel
theorem dX9_dueFrom_18 : decode cX9_dueFrom 18 = .ok (.aload_n 0, 1) := by decide +kernel
theorem dX9_dueFrom_19 : decode cX9_dueFrom 19 = .ok (.getfield 9, 3) := by decide +kernel
theorem dX9_dueFrom_22 : decode cX9_dueFrom 22 = .ok (.iload 7, 2) := by decide +kernel
theorem dX9_dueFrom_24 : decode cX9_dueFrom 24 = .ok (.iaload, 1) := by decide +kernel
theorem dX9_dueFrom_25 : decode cX9_dueFrom 25 = .ok (.tableswitch 106 0 2 #[27, 53, 94], 27) := by decide +kernel
theorem dX9_dueFrom_52 : decode cX9_dueFrom 52 = .ok (.lload 4, 2) := by decide +kernel
theorem dX9_dueFrom_54 : decode cX9_dueFrom 54 = .ok (.iload_n 3, 1) := by decide +kernel
theorem dX9_dueFrom_55 : decode cX9_dueFrom 55 = .ok (.aload_n 0, 1) := by decide +kernel
theorem dX9_dueFrom_56 : decode cX9_dueFrom 56 = .ok (.getfield 15, 3) := by decide +kernel
theorem dX9_dueFrom_59 : decode cX9_dueFrom 59 = .ok (.iload 7, 2) := by decide +kernel
theorem dX9_dueFrom_61 : decode cX9_dueFrom 61 = .ok (.iaload, 1) := by decide +kernel
theorem dX9_dueFrom_62 : decode cX9_dueFrom 62 = .ok (.aload_n 0, 1) := by decide +kernel
theorem dX9_dueFrom_63 : decode cX9_dueFrom 63 = .ok (.getfield 18, 3) := by decide +kernel
theorem dX9_dueFrom_66 : decode cX9_dueFrom 66 = .ok (.iload 7, 2) := by decide +kernel
theorem dX9_dueFrom_68 : decode cX9_dueFrom 68 = .ok (.iaload, 1) := by decide +kernel
theorem dX9_dueFrom_69 : decode cX9_dueFrom 69 = .ok (.invokestatic 38, 3) := by decide +kernel
theorem dX9_dueFrom_72 : decode cX9_dueFrom 72 = .ok (.ladd, 1) := by decide +kernel
theorem dX9_dueFrom_73 : decode cX9_dueFrom 73 = .ok (.lstore 4, 2) := by decide +kernel
theorem dX9_dueFrom_75 : decode cX9_dueFrom 75 = .ok (.goto 71, 3) := by decide +kernel
theorem dX9_dueFrom_78 : decode cX9_dueFrom 78 = .ok (.lload 4, 2) := by decide +kernel
theorem dX9_dueFrom_80 : decode cX9_dueFrom 80 = .ok (.iload_n 2, 1) := by decide +kernel
theorem dX9_dueFrom_81 : decode cX9_dueFrom 81 = .ok (.aload_n 0, 1) := by decide +kernel
theorem dX9_dueFrom_82 : decode cX9_dueFrom 82 = .ok (.getfield 21, 3) := by decide +kernel
theorem dX9_dueFrom_85 : decode cX9_dueFrom 85 = .ok (.iload 7, 2) := by decide +kernel
theorem dX9_dueFrom_87 : decode cX9_dueFrom 87 = .ok (.iaload, 1) := by decide +kernel
theorem dX9_dueFrom_88 : decode cX9_dueFrom 88 = .ok (.if_icmp .lt 24, 3) := by decide +kernel
theorem dX9_dueFrom_91 : decode cX9_dueFrom 91 = .ok (.iload_n 1, 1) := by decide +kernel
theorem dX9_dueFrom_92 : decode cX9_dueFrom 92 = .ok (.aload_n 0, 1) := by decide +kernel
theorem dX9_dueFrom_93 : decode cX9_dueFrom 93 = .ok (.getfield 15, 3) := by decide +kernel
theorem dX9_dueFrom_96 : decode cX9_dueFrom 96 = .ok (.iload 7, 2) := by decide +kernel
theorem dX9_dueFrom_98 : decode cX9_dueFrom 98 = .ok (.iaload, 1) := by decide +kernel
theorem dX9_dueFrom_99 : decode cX9_dueFrom 99 = .ok (.aload_n 0, 1) := by decide +kernel
theorem dX9_dueFrom_100 : decode cX9_dueFrom 100 = .ok (.getfield 18, 3) := by decide +kernel
theorem dX9_dueFrom_103 : decode cX9_dueFrom 103 = .ok (.iload 7, 2) := by decide +kernel
theorem dX9_dueFrom_105 : decode cX9_dueFrom 105 = .ok (.iaload, 1) := by decide +kernel
theorem dX9_dueFrom_106 : decode cX9_dueFrom 106 = .ok (.invokestatic 42, 3) := by decide +kernel
theorem dX9_dueFrom_109 : decode cX9_dueFrom 109 = .ok (.goto 4, 3) := by decide +kernel
theorem dX9_dueFrom_112 : decode cX9_dueFrom 112 = .ok (.lconst 0, 1) := by decide +kernel
theorem dX9_dueFrom_113 : decode cX9_dueFrom 113 = .ok (.ladd, 1) := by decide +kernel
theorem dX9_dueFrom_114 : decode cX9_dueFrom 114 = .ok (.lstore 4, 2) := by decide +kernel
theorem dX9_dueFrom_116 : decode cX9_dueFrom 116 = .ok (.goto 30, 3) := by decide +kernel
theorem dX9_dueFrom_119 : decode cX9_dueFrom 119 = .ok (.aload_n 0, 1) := by decide +kernel
theorem dX9_dueFrom_120 : decode cX9_dueFrom 120 = .ok (.getfield 15, 3) := by decide +kernel
theorem dX9_dueFrom_123 : decode cX9_dueFrom 123 = .ok (.iload 7, 2) := by decide +kernel
theorem dX9_dueFrom_125 : decode cX9_dueFrom 125 = .ok (.iaload, 1) := by decide +kernel
theorem dX9_dueFrom_126 : decode cX9_dueFrom 126 = .ok (.istore 6, 2) := by decide +kernel
theorem dX9_dueFrom_128 : decode cX9_dueFrom 128 = .ok (.goto 18, 3) := by decide +kernel
theorem dX9_dueFrom_131 : decode cX9_dueFrom 131 = .ok (.lload 4, 2) := by decide +kernel
theorem dX9_dueFrom_133 : decode cX9_dueFrom 133 = .ok (.aload_n 0, 1) := by decide +kernel
theorem dX9_dueFrom_134 : decode cX9_dueFrom 134 = .ok (.getfield 15, 3) := by decide +kernel
theorem dX9_dueFrom_137 : decode cX9_dueFrom 137 = .ok (.iload 7, 2) := by decide +kernel
theorem dX9_dueFrom_139 : decode cX9_dueFrom 139 = .ok (.iaload, 1) := by decide +kernel
theorem dX9_dueFrom_140 : decode cX9_dueFrom 140 = .ok (.i2l, 1) := by decide +kernel
theorem dX9_dueFrom_141 : decode cX9_dueFrom 141 = .ok (.invokestatic 45, 3) := by decide +kernel
theorem dX9_dueFrom_144 : decode cX9_dueFrom 144 = .ok (.lstore 4, 2) := by decide +kernel
theorem dX9_dueFrom_146 : decode cX9_dueFrom 146 = .ok (.iinc 7 1, 3) := by decide +kernel
theorem dX9_dueFrom_149 : decode cX9_dueFrom 149 = .ok (.goto (-140), 3) := by decide +kernel
theorem dX9_dueFrom_152 : decode cX9_dueFrom 152 = .ok (.iload_n 1, 1) := by decide +kernel
theorem dX9_dueFrom_153 : decode cX9_dueFrom 153 = .ok (.iload 6, 2) := by decide +kernel
theorem dX9_dueFrom_155 : decode cX9_dueFrom 155 = .ok (.if_icmp .ge 7, 3) := by decide +kernel
theorem dX9_dueFrom_158 : decode cX9_dueFrom 158 = .ok (.lconst 0, 1) := by decide +kernel
theorem dX9_dueFrom_159 : decode cX9_dueFrom 159 = .ok (.goto 5, 3) := by decide +kernel
theorem dX9_dueFrom_162 : decode cX9_dueFrom 162 = .ok (.lload 4, 2) := by decide +kernel
theorem dX9_dueFrom_164 : decode cX9_dueFrom 164 = .ok (.lreturn, 1) := by decide +kernel
theorem dX9_partOf_0 : decode cX9_partOf 0 = .ok (.iload_n 2, 1) := by decide +kernel
theorem dX9_partOf_1 : decode cX9_partOf 1 = .ok (.iconst 1, 1) := by decide +kernel
theorem dX9_partOf_2 : decode cX9_partOf 2 = .ok (.if_icmp .ge 7, 3) := by decide +kernel
theorem dX9_partOf_5 : decode cX9_partOf 5 = .ok (.lconst 0, 1) := by decide +kernel
theorem dX9_partOf_6 : decode cX9_partOf 6 = .ok (.goto 11, 3) := by decide +kernel
theorem dX9_partOf_9 : decode cX9_partOf 9 = .ok (.iload_n 0, 1) := by decide +kernel
theorem dX9_partOf_10 : decode cX9_partOf 10 = .ok (.i2l, 1) := by decide +kernel
theorem dX9_partOf_11 : decode cX9_partOf 11 = .ok (.iload_n 1, 1) := by decide +kernel
theorem dX9_partOf_12 : decode cX9_partOf 12 = .ok (.i2l, 1) := by decide +kernel
theorem dX9_partOf_13 : decode cX9_partOf 13 = .ok (.lmul, 1) := by decide +kernel
theorem dX9_partOf_14 : decode cX9_partOf 14 = .ok (.iload_n 2, 1) := by decide +kernel
theorem dX9_partOf_15 : decode cX9_partOf 15 = .ok (.i2l, 1) := by decide +kernel
theorem dX9_partOf_16 : decode cX9_partOf 16 = .ok (.ldiv, 1) := by decide +kernel
theorem dX9_partOf_17 : decode cX9_partOf 17 = .ok (.lreturn, 1) := by decide +kernel
theorem dX9_eachOf_0 : decode cX9_eachOf 0 = .ok (.iload_n 1, 1) := by decide +kernel
theorem dX9_eachOf_1 : decode cX9_eachOf 1 = .ok (.iconst 1, 1) := by decide +kernel
theorem dX9_eachOf_2 : decode cX9_eachOf 2 = .ok (.if_icmp .ge 7, 3) := by decide +kernel
theorem dX9_eachOf_5 : decode cX9_eachOf 5 = .ok (.lconst 0, 1) := by decide +kernel
theorem dX9_eachOf_6 : decode cX9_eachOf 6 = .ok (.goto 10, 3) := by decide +kernel
theorem dX9_eachOf_9 : decode cX9_eachOf 9 = .ok (.iload_n 0, 1) := by decide +kernel
theorem dX9_eachOf_10 : decode cX9_eachOf 10 = .ok (.iload_n 1, 1) := by decide +kernel
theorem dX9_eachOf_11 : decode cX9_eachOf 11 = .ok (.idiv, 1) := by decide +kernel
theorem dX9_eachOf_12 : decode cX9_eachOf 12 = .ok (.i2l, 1) := by decide +kernel
theorem dX9_eachOf_13 : decode cX9_eachOf 13 = .ok (.iload_n 2, 1) := by decide +kernel
theorem dX9_eachOf_14 : decode cX9_eachOf 14 = .ok (.i2l, 1) := by decide +kernel
theorem dX9_eachOf_15 : decode cX9_eachOf 15 = .ok (.lmul, 1) := by decide +kernel
theorem dX9_eachOf_16 : decode cX9_eachOf 16 = .ok (.lreturn, 1) := by decide +kernel
theorem dX10_init_0 : decode cX10_init 0 = .ok (.aload_n 0, 1) := by decide +kernel
theorem dX10_init_1 : decode cX10_init 1 = .ok (.invokespecial 3, 3) := by decide +kernel
theorem dX10_init_4 : decode cX10_init 4 = .ok (.aload_n 0, 1) := by decide +kernel
theorem dX10_init_5 : decode cX10_init 5 = .ok (.new 9, 3) := by decide +kernel
theorem dX10_init_8 : decode cX10_init 8 = .ok (.dup, 1) := by decide +kernel
theorem dX10_init_9 : decode cX10_init 9 = .ok (.invokespecial 11, 3) := by decide +kernel
theorem dX10_init_12 : decode cX10_init 12 = .ok (.putfield 12, 3) := by decide +kernel
theorem dX10_init_15 : decode cX10_init 15 = .ok (.aload_n 0, 1) := by decide +kernel
theorem dX10_init_16 : decode cX10_init 16 = .ok (.new 16, 3) := by decide +kernel
theorem dX10_init_19 : decode cX10_init 19 = .ok (.dup, 1) := by decide +kernel
theorem dX10_init_20 : decode cX10_init 20 = .ok (.invokespecial 18, 3) := by decide +kernel
theorem dX10_init_23 : decode cX10_init 23 = .ok (.putfield 19, 3) := by decide +kernel
theorem dX10_init_26 : decode cX10_init 26 = .ok (.aload_n 0, 1) := by decide +kernel
theorem dX10_init_27 : decode cX10_init 27 = .ok (.new 23, 3) := by decide +kernel
theorem dX10_init_30 : decode cX10_init 30 = .ok (.dup, 1) := by decide +kernel
theorem dX10_init_31 : decode cX10_init 31 = .ok (.aload_n 0, 1) := by decide +kernel
theorem dX10_init_32 : decode cX10_init 32 = .ok (.getfield 19, 3) := by decide +kernel
theorem dX10_init_35 : decode cX10_init 35 = .ok (.invokespecial 25, 3) := by decide +kernel
theorem dX10_init_38 : decode cX10_init 38 = .ok (.putfield 28, 3) := by decide +kernel
theorem dX10_init_41 : decode cX10_init 41 = .ok (.aload_n 0, 1) := by decide +kernel
theorem dX10_init_42 : decode cX10_init 42 = .ok (.new 32, 3) := by decide +kernel
theorem dX10_init_45 : decode cX10_init 45 = .ok (.dup, 1) := by decide +kernel
theorem dX10_init_46 : decode cX10_init 46 = .ok (.invokespecial 34, 3) := by decide +kernel
theorem dX10_init_49 : decode cX10_init 49 = .ok (.putfield 35, 3) := by decide +kernel
theorem dX10_init_52 : decode cX10_init 52 = .ok (.aload_n 0, 1) := by decide +kernel
theorem dX10_init_53 : decode cX10_init 53 = .ok (.new 39, 3) := by decide +kernel
theorem dX10_init_56 : decode cX10_init 56 = .ok (.dup, 1) := by decide +kernel
theorem dX10_init_57 : decode cX10_init 57 = .ok (.invokespecial 41, 3) := by decide +kernel
theorem dX10_init_60 : decode cX10_init 60 = .ok (.putfield 42, 3) := by decide +kernel
theorem dX10_init_63 : decode cX10_init 63 = .ok (.aload_n 0, 1) := by decide +kernel
theorem dX10_init_64 : decode cX10_init 64 = .ok (.new 46, 3) := by decide +kernel
theorem dX10_init_67 : decode cX10_init 67 = .ok (.dup, 1) := by decide +kernel
theorem dX10_init_68 : decode cX10_init 68 = .ok (.invokespecial 48, 3) := by decide +kernel
theorem dX10_init_71 : decode cX10_init 71 = .ok (.putfield 49, 3) := by decide +kernel
theorem dX10_init_74 : decode cX10_init 74 = .ok (.aload_n 0, 1) := by decide +kernel
theorem dX10_init_75 : decode cX10_init 75 = .ok (.new 53, 3) := by decide +kernel
theorem dX10_init_78 : decode cX10_init 78 = .ok (.dup, 1) := by decide +kernel
theorem dX10_init_79 : decode cX10_init 79 = .ok (.aload_n 0, 1) := by decide +kernel
theorem dX10_init_80 : decode cX10_init 80 = .ok (.getfield 42, 3) := by decide +kernel
theorem dX10_init_83 : decode cX10_init 83 = .ok (.invokespecial 55, 3) := by decide +kernel
theorem dX10_init_86 : decode cX10_init 86 = .ok (.putfield 58, 3) := by decide +kernel
theorem dX10_init_89 : decode cX10_init 89 = .ok (.aload_n 0, 1) := by decide +kernel
theorem dX10_init_90 : decode cX10_init 90 = .ok (.new 62, 3) := by decide +kernel
theorem dX10_init_93 : decode cX10_init 93 = .ok (.dup, 1) := by decide +kernel
theorem dX10_init_94 : decode cX10_init 94 = .ok (.aload_n 0, 1) := by decide +kernel
theorem dX10_init_95 : decode cX10_init 95 = .ok (.getfield 12, 3) := by decide +kernel
theorem dX10_init_98 : decode cX10_init 98 = .ok (.aload_n 0, 1) := by decide +kernel
theorem dX10_init_99 : decode cX10_init 99 = .ok (.getfield 28, 3) := by decide +kernel
theorem dX10_init_102 : decode cX10_init 102 = .ok (.aload_n 0, 1) := by decide +kernel
theorem dX10_init_103 : decode cX10_init 103 = .ok (.getfield 49, 3) := by decide +kernel
theorem dX10_init_106 : decode cX10_init 106 = .ok (.invokespecial 64, 3) := by decide +kernel
theorem dX10_init_109 : decode cX10_init 109 = .ok (.putfield 67, 3) := by decide +kernel
theorem dX10_init_112 : decode cX10_init 112 = .ok (.aload_n 0, 1) := by decide +kernel
theorem dX10_init_113 : decode cX10_init 113 = .ok (.new 71, 3) := by decide +kernel
theorem dX10_init_116 : decode cX10_init 116 = .ok (.dup, 1) := by decide +kernel
theorem dX10_init_117 : decode cX10_init 117 = .ok (.invokespecial 73, 3) := by decide +kernel
theorem dX10_init_120 : decode cX10_init 120 = .ok (.putfield 74, 3) := by decide +kernel
theorem dX10_init_123 : decode cX10_init 123 = .ok (.aload_n 0, 1) := by decide +kernel
theorem dX10_init_124 : decode cX10_init 124 = .ok (.new 78, 3) := by decide +kernel
theorem dX10_init_127 : decode cX10_init 127 = .ok (.dup, 1) := by decide +kernel
theorem dX10_init_128 : decode cX10_init 128 = .ok (.invokespecial 80, 3) := by decide +kernel
theorem dX10_init_131 : decode cX10_init 131 = .ok (.putfield 81, 3) := by decide +kernel
theorem dX10_init_134 : decode cX10_init 134 = .ok (.return_, 1) := by decide +kernel
theorem dX10_bears_0 : decode cX10_bears 0 = .ok (.iload_n 1, 1) := by decide +kernel
theorem dX10_bears_1 : decode cX10_bears 1 = .ok (.iconst 0, 1) := by decide +kernel
theorem dX10_bears_2 : decode cX10_bears 2 = .ok (.bipush 24, 2) := by decide +kernel
theorem dX10_bears_4 : decode cX10_bears 4 = .ok (.invokestatic 85, 3) := by decide +kernel
theorem dX10_bears_7 : decode cX10_bears 7 = .ok (.ifCond .eq 14, 3) := by decide +kernel
theorem dX10_bears_10 : decode cX10_bears 10 = .ok (.iload_n 2, 1) := by decide +kernel
theorem dX10_bears_11 : decode cX10_bears 11 = .ok (.iconst 0, 1) := by decide +kernel
theorem dX10_bears_12 : decode cX10_bears 12 = .ok (.sipush 500, 3) := by decide +kernel
theorem dX10_bears_15 : decode cX10_bears 15 = .ok (.invokestatic 85, 3) := by decide +kernel
theorem dX10_bears_18 : decode cX10_bears 18 = .ok (.ifCond .ne 9, 3) := by decide +kernel
theorem dX10_bears_21 : decode cX10_bears 21 = .ok (.aload_n 0, 1) := by decide +kernel
theorem dX10_bears_22 : decode cX10_bears 22 = .ok (.iconst (-1), 1) := by decide +kernel
theorem dX10_bears_23 : decode cX10_bears 23 = .ok (.invokevirtual 89, 3) := by decide +kernel
theorem dX10_bears_26 : decode cX10_bears 26 = .ok (.ireturn, 1) := by decide +kernel
theorem dX10_bears_27 : decode cX10_bears 27 = .ok (.aload_n 0, 1) := by decide +kernel
theorem dX10_bears_28 : decode cX10_bears 28 = .ok (.getfield 12, 3) := by decide +kernel
theorem dX10_bears_31 : decode cX10_bears 31 = .ok (.getfield 93, 3) := by decide +kernel
theorem dX10_bears_34 : decode cX10_bears 34 = .ok (.iload_n 1, 1) := by decide +kernel
theorem dX10_bears_35 : decode cX10_bears 35 = .ok (.iload_n 2, 1) := by decide +kernel
theorem dX10_bears_36 : decode cX10_bears 36 = .ok (.iastore, 1) := by decide +kernel
theorem dX10_bears_37 : decode cX10_bears 37 = .ok (.aload_n 0, 1) := by decide +kernel
theorem dX10_bears_38 : decode cX10_bears 38 = .ok (.iconst 0, 1) := by decide +kernel
theorem dX10_bears_39 : decode cX10_bears 39 = .ok (.invokevirtual 97, 3) := by decide +kernel
theorem dX10_bears_42 : decode cX10_bears 42 = .ok (.ireturn, 1) := by decide +kernel
theorem dX10_ratio_0 : decode cX10_ratio 0 = .ok (.iload_n 1, 1) := by decide +kernel
theorem dX10_ratio_1 : decode cX10_ratio 1 = .ok (.invokestatic 100, 3) := by decide +kernel
theorem dX10_ratio_4 : decode cX10_ratio 4 = .ok (.ifCond .eq 13, 3) := by decide +kernel
theorem dX10_ratio_7 : decode cX10_ratio 7 = .ok (.iload_n 2, 1) := by decide +kernel
theorem dX10_ratio_8 : decode cX10_ratio 8 = .ok (.iconst 1, 1) := by decide +kernel
theorem dX10_ratio_9 : decode cX10_ratio 9 = .ok (.bipush 100, 2) := by decide +kernel
theorem dX10_ratio_11 : decode cX10_ratio 11 = .ok (.invokestatic 85, 3) := by decide +kernel
theorem dX10_ratio_14 : decode cX10_ratio 14 = .ok (.ifCond .ne 9, 3) := by decide +kernel
theorem dX10_ratio_17 : decode cX10_ratio 17 = .ok (.aload_n 0, 1) := by decide +kernel
theorem dX10_ratio_18 : decode cX10_ratio 18 = .ok (.iconst (-1), 1) := by decide +kernel
theorem dX10_ratio_19 : decode cX10_ratio 19 = .ok (.invokevirtual 89, 3) := by decide +kernel
theorem dX10_ratio_22 : decode cX10_ratio 22 = .ok (.ireturn, 1) := by decide +kernel
theorem dX10_ratio_23 : decode cX10_ratio 23 = .ok (.aload_n 0, 1) := by decide +kernel
theorem dX10_ratio_24 : decode cX10_ratio 24 = .ok (.getfield 28, 3) := by decide +kernel
theorem dX10_ratio_27 : decode cX10_ratio 27 = .ok (.getfield 104, 3) := by decide +kernel
theorem dX10_ratio_30 : decode cX10_ratio 30 = .ok (.iload_n 1, 1) := by decide +kernel
theorem dX10_ratio_31 : decode cX10_ratio 31 = .ok (.iload_n 2, 1) := by decide +kernel
theorem dX10_ratio_32 : decode cX10_ratio 32 = .ok (.iastore, 1) := by decide +kernel
theorem dX10_ratio_33 : decode cX10_ratio 33 = .ok (.aload_n 0, 1) := by decide +kernel
theorem dX10_ratio_34 : decode cX10_ratio 34 = .ok (.iconst 0, 1) := by decide +kernel
theorem dX10_ratio_35 : decode cX10_ratio 35 = .ok (.invokevirtual 97, 3) := by decide +kernel
theorem dX10_ratio_38 : decode cX10_ratio 38 = .ok (.ireturn, 1) := by decide +kernel
theorem dX10_price_0 : decode cX10_price 0 = .ok (.iload_n 1, 1) := by decide +kernel
theorem dX10_price_1 : decode cX10_price 1 = .ok (.invokestatic 100, 3) := by decide +kernel
theorem dX10_price_4 : decode cX10_price 4 = .ok (.ifCond .eq 29, 3) := by decide +kernel
theorem dX10_price_7 : decode cX10_price 7 = .ok (.iload_n 2, 1) := by decide +kernel
theorem dX10_price_8 : decode cX10_price 8 = .ok (.invokestatic 107, 3) := by decide +kernel
theorem dX10_price_11 : decode cX10_price 11 = .ok (.ifCond .eq 22, 3) := by decide +kernel
theorem dX10_price_14 : decode cX10_price 14 = .ok (.iload_n 3, 1) := by decide +kernel
theorem dX10_price_15 : decode cX10_price 15 = .ok (.iconst 0, 1) := by decide +kernel
theorem dX10_price_16 : decode cX10_price 16 = .ok (.sipush 1000, 3) := by decide +kernel
theorem dX10_price_19 : decode cX10_price 19 = .ok (.invokestatic 85, 3) := by decide +kernel
theorem dX10_price_22 : decode cX10_price 22 = .ok (.ifCond .eq 11, 3) := by decide +kernel
theorem dX10_price_25 : decode cX10_price 25 = .ok (.iload 4, 2) := by decide +kernel
theorem dX10_price_27 : decode cX10_price 27 = .ok (.invokestatic 107, 3) := by decide +kernel
theorem dX10_price_30 : decode cX10_price 30 = .ok (.ifCond .ne 9, 3) := by decide +kernel
theorem dX10_price_33 : decode cX10_price 33 = .ok (.aload_n 0, 1) := by decide +kernel
theorem dX10_price_34 : decode cX10_price 34 = .ok (.iconst (-1), 1) := by decide +kernel
theorem dX10_price_35 : decode cX10_price 35 = .ok (.invokevirtual 89, 3) := by decide +kernel
theorem dX10_price_38 : decode cX10_price 38 = .ok (.ireturn, 1) := by decide +kernel
theorem dX10_price_39 : decode cX10_price 39 = .ok (.aload_n 0, 1) := by decide +kernel
theorem dX10_price_40 : decode cX10_price 40 = .ok (.getfield 19, 3) := by decide +kernel
theorem dX10_price_43 : decode cX10_price 43 = .ok (.getfield 110, 3) := by decide +kernel
theorem dX10_price_46 : decode cX10_price 46 = .ok (.sipush 300, 3) := by decide +kernel
theorem dX10_price_49 : decode cX10_price 49 = .ok (.if_icmp .lt 10, 3) := by decide +kernel
theorem dX10_price_52 : decode cX10_price 52 = .ok (.aload_n 0, 1) := by decide +kernel
theorem dX10_price_53 : decode cX10_price 53 = .ok (.bipush (-5), 2) := by decide +kernel
theorem dX10_price_55 : decode cX10_price 55 = .ok (.invokevirtual 89, 3) := by decide +kernel
theorem dX10_price_58 : decode cX10_price 58 = .ok (.ireturn, 1) := by decide +kernel
theorem dX10_price_59 : decode cX10_price 59 = .ok (.aload_n 0, 1) := by decide +kernel
theorem dX10_price_60 : decode cX10_price 60 = .ok (.getfield 19, 3) := by decide +kernel
theorem dX10_price_63 : decode cX10_price 63 = .ok (.iload_n 1, 1) := by decide +kernel
theorem dX10_price_64 : decode cX10_price 64 = .ok (.iload_n 2, 1) := by decide +kernel
theorem dX10_price_65 : decode cX10_price 65 = .ok (.iload_n 3, 1) := by decide +kernel
theorem dX10_price_66 : decode cX10_price 66 = .ok (.iload 4, 2) := by decide +kernel
theorem dX10_price_68 : decode cX10_price 68 = .ok (.invokevirtual 114, 3) := by decide +kernel
theorem dX10_price_71 : decode cX10_price 71 = .ok (.aload_n 0, 1) := by decide +kernel
theorem dX10_price_72 : decode cX10_price 72 = .ok (.aload_n 0, 1) := by decide +kernel
theorem dX10_price_73 : decode cX10_price 73 = .ok (.getfield 19, 3) := by decide +kernel
theorem dX10_price_76 : decode cX10_price 76 = .ok (.getfield 110, 3) := by decide +kernel
theorem dX10_price_79 : decode cX10_price 79 = .ok (.invokevirtual 97, 3) := by decide +kernel
theorem dX10_price_82 : decode cX10_price 82 = .ok (.ireturn, 1) := by decide +kernel
theorem dX10_at_0 : decode cX10_at 0 = .ok (.iload_n 1, 1) := by decide +kernel
theorem dX10_at_1 : decode cX10_at 1 = .ok (.invokestatic 100, 3) := by decide +kernel
theorem dX10_at_4 : decode cX10_at 4 = .ok (.ifCond .eq 17, 3) := by decide +kernel
theorem dX10_at_7 : decode cX10_at 7 = .ok (.iload_n 2, 1) := by decide +kernel
theorem dX10_at_8 : decode cX10_at 8 = .ok (.invokestatic 107, 3) := by decide +kernel
theorem dX10_at_11 : decode cX10_at 11 = .ok (.ifCond .eq 10, 3) := by decide +kernel
theorem dX10_at_14 : decode cX10_at 14 = .ok (.iload_n 3, 1) := by decide +kernel
theorem dX10_at_15 : decode cX10_at 15 = .ok (.invokestatic 107, 3) := by decide +kernel
theorem dX10_at_18 : decode cX10_at 18 = .ok (.ifCond .ne 5, 3) := by decide +kernel
theorem dX10_at_21 : decode cX10_at 21 = .ok (.iconst (-1), 1) := by decide +kernel
theorem dX10_at_22 : decode cX10_at 22 = .ok (.ireturn, 1) := by decide +kernel
theorem dX10_at_23 : decode cX10_at 23 = .ok (.aload_n 0, 1) := by decide +kernel
theorem dX10_at_24 : decode cX10_at 24 = .ok (.getfield 19, 3) := by decide +kernel
theorem dX10_at_27 : decode cX10_at 27 = .ok (.iload_n 1, 1) := by decide +kernel
theorem dX10_at_28 : decode cX10_at 28 = .ok (.iload_n 2, 1) := by decide +kernel
theorem dX10_at_29 : decode cX10_at 29 = .ok (.iload_n 3, 1) := by decide +kernel
theorem dX10_at_30 : decode cX10_at 30 = .ok (.invokevirtual 118, 3) := by decide +kernel
theorem dX10_at_33 : decode cX10_at 33 = .ok (.ireturn, 1) := by decide +kernel
theorem dX10_terms_0 : decode cX10_terms 0 = .ok (.iload_n 1, 1) := by decide +kernel
theorem dX10_terms_1 : decode cX10_terms 1 = .ok (.iconst 0, 1) := by decide +kernel
theorem dX10_terms_2 : decode cX10_terms 2 = .ok (.bipush 100, 2) := by decide +kernel
theorem dX10_terms_4 : decode cX10_terms 4 = .ok (.invokestatic 85, 3) := by decide +kernel
theorem dX10_terms_7 : decode cX10_terms 7 = .ok (.ifCond .eq 13, 3) := by decide +kernel
theorem dX10_terms_10 : decode cX10_terms 10 = .ok (.iload_n 2, 1) := by decide +kernel
theorem dX10_terms_11 : decode cX10_terms 11 = .ok (.iconst 0, 1) := by decide +kernel
theorem dX10_terms_12 : decode cX10_terms 12 = .ok (.bipush 100, 2) := by decide +kernel
theorem dX10_terms_14 : decode cX10_terms 14 = .ok (.invokestatic 85, 3) := by decide +kernel
theorem dX10_terms_17 : decode cX10_terms 17 = .ok (.ifCond .ne 9, 3) := by decide +kernel
theorem dX10_terms_20 : decode cX10_terms 20 = .ok (.aload_n 0, 1) := by decide +kernel
theorem dX10_terms_21 : decode cX10_terms 21 = .ok (.iconst (-1), 1) := by decide +kernel
theorem dX10_terms_22 : decode cX10_terms 22 = .ok (.invokevirtual 89, 3) := by decide +kernel
theorem dX10_terms_25 : decode cX10_terms 25 = .ok (.ireturn, 1) := by decide +kernel
theorem dX10_terms_26 : decode cX10_terms 26 = .ok (.aload_n 0, 1) := by decide +kernel
theorem dX10_terms_27 : decode cX10_terms 27 = .ok (.getfield 12, 3) := by decide +kernel
theorem dX10_terms_30 : decode cX10_terms 30 = .ok (.iload_n 1, 1) := by decide +kernel
theorem dX10_terms_31 : decode cX10_terms 31 = .ok (.putfield 122, 3) := by decide +kernel
theorem dX10_terms_34 : decode cX10_terms 34 = .ok (.aload_n 0, 1) := by decide +kernel
theorem dX10_terms_35 : decode cX10_terms 35 = .ok (.getfield 12, 3) := by decide +kernel
theorem dX10_terms_38 : decode cX10_terms 38 = .ok (.iload_n 2, 1) := by decide +kernel
theorem dX10_terms_39 : decode cX10_terms 39 = .ok (.putfield 125, 3) := by decide +kernel
theorem dX10_terms_42 : decode cX10_terms 42 = .ok (.aload_n 0, 1) := by decide +kernel
theorem dX10_terms_43 : decode cX10_terms 43 = .ok (.iconst 0, 1) := by decide +kernel
theorem dX10_terms_44 : decode cX10_terms 44 = .ok (.invokevirtual 97, 3) := by decide +kernel
theorem dX10_terms_47 : decode cX10_terms 47 = .ok (.ireturn, 1) := by decide +kernel
theorem dX10_garden_0 : decode cX10_garden 0 = .ok (.iload_n 1, 1) := by decide +kernel
theorem dX10_garden_1 : decode cX10_garden 1 = .ok (.iconst 1, 1) := by decide +kernel
theorem dX10_garden_2 : decode cX10_garden 2 = .ok (.sipush 2000, 3) := by decide +kernel
theorem dX10_garden_5 : decode cX10_garden 5 = .ok (.invokestatic 85, 3) := by decide +kernel
theorem dX10_garden_8 : decode cX10_garden 8 = .ok (.ifCond .eq 13, 3) := by decide +kernel
theorem dX10_garden_11 : decode cX10_garden 11 = .ok (.iload_n 2, 1) := by decide +kernel
theorem dX10_garden_12 : decode cX10_garden 12 = .ok (.iconst (-1), 1) := by decide +kernel
theorem dX10_garden_13 : decode cX10_garden 13 = .ok (.bipush 24, 2) := by decide +kernel
theorem dX10_garden_15 : decode cX10_garden 15 = .ok (.invokestatic 85, 3) := by decide +kernel
theorem dX10_garden_18 : decode cX10_garden 18 = .ok (.ifCond .ne 9, 3) := by decide +kernel
theorem dX10_garden_21 : decode cX10_garden 21 = .ok (.aload_n 0, 1) := by decide +kernel
theorem dX10_garden_22 : decode cX10_garden 22 = .ok (.iconst (-1), 1) := by decide +kernel
theorem dX10_garden_23 : decode cX10_garden 23 = .ok (.invokevirtual 89, 3) := by decide +kernel
theorem dX10_garden_26 : decode cX10_garden 26 = .ok (.ireturn, 1) := by decide +kernel
theorem dX10_garden_27 : decode cX10_garden 27 = .ok (.aload_n 0, 1) := by decide +kernel
theorem dX10_garden_28 : decode cX10_garden 28 = .ok (.getfield 35, 3) := by decide +kernel
theorem dX10_garden_31 : decode cX10_garden 31 = .ok (.getfield 128, 3) := by decide +kernel
theorem dX10_garden_34 : decode cX10_garden 34 = .ok (.bipush 12, 2) := by decide +kernel
theorem dX10_garden_36 : decode cX10_garden 36 = .ok (.if_icmp .lt 10, 3) := by decide +kernel
theorem dX10_garden_39 : decode cX10_garden 39 = .ok (.aload_n 0, 1) := by decide +kernel
theorem dX10_garden_40 : decode cX10_garden 40 = .ok (.bipush (-5), 2) := by decide +kernel
theorem dX10_garden_42 : decode cX10_garden 42 = .ok (.invokevirtual 89, 3) := by decide +kernel
theorem dX10_garden_45 : decode cX10_garden 45 = .ok (.ireturn, 1) := by decide +kernel
theorem dX10_garden_46 : decode cX10_garden 46 = .ok (.aload_n 0, 1) := by decide +kernel
theorem dX10_garden_47 : decode cX10_garden 47 = .ok (.aload_n 0, 1) := by decide +kernel
theorem dX10_garden_48 : decode cX10_garden 48 = .ok (.getfield 35, 3) := by decide +kernel
theorem dX10_garden_51 : decode cX10_garden 51 = .ok (.iload_n 1, 1) := by decide +kernel
theorem dX10_garden_52 : decode cX10_garden 52 = .ok (.iload_n 2, 1) := by decide +kernel
theorem dX10_garden_53 : decode cX10_garden 53 = .ok (.invokevirtual 129, 3) := by decide +kernel
theorem dX10_garden_56 : decode cX10_garden 56 = .ok (.invokevirtual 97, 3) := by decide +kernel
theorem dX10_garden_59 : decode cX10_garden 59 = .ok (.ireturn, 1) := by decide +kernel
theorem dX10_of_0 : decode cX10_of 0 = .ok (.aload_n 0, 1) := by decide +kernel
theorem dX10_of_1 : decode cX10_of 1 = .ok (.getfield 35, 3) := by decide +kernel
theorem dX10_of_4 : decode cX10_of 4 = .ok (.iload_n 1, 1) := by decide +kernel
theorem dX10_of_5 : decode cX10_of 5 = .ok (.invokevirtual 133, 3) := by decide +kernel
theorem dX10_of_8 : decode cX10_of 8 = .ok (.ifCond .ne 5, 3) := by decide +kernel
theorem dX10_of_11 : decode cX10_of 11 = .ok (.iconst (-1), 1) := by decide +kernel
theorem dX10_of_12 : decode cX10_of 12 = .ok (.ireturn, 1) := by decide +kernel
theorem dX10_of_13 : decode cX10_of 13 = .ok (.iload_n 2, 1) := by decide +kernel
theorem dX10_of_14 : decode cX10_of 14 = .ok (.lookupswitch 46 #[(0, 26), (1, 36)], 26) := by decide +kernel
theorem dX10_of_40 : decode cX10_of 40 = .ok (.aload_n 0, 1) := by decide +kernel
theorem dX10_of_41 : decode cX10_of 41 = .ok (.getfield 35, 3) := by decide +kernel
theorem dX10_of_44 : decode cX10_of 44 = .ok (.getfield 136, 3) := by decide +kernel
theorem dX10_of_47 : decode cX10_of 47 = .ok (.iload_n 1, 1) := by decide +kernel
theorem dX10_of_48 : decode cX10_of 48 = .ok (.iaload, 1) := by decide +kernel
theorem dX10_of_49 : decode cX10_of 49 = .ok (.ireturn, 1) := by decide +kernel
theorem dX10_of_50 : decode cX10_of 50 = .ok (.aload_n 0, 1) := by decide +kernel
theorem dX10_of_51 : decode cX10_of 51 = .ok (.getfield 35, 3) := by decide +kernel
theorem dX10_of_54 : decode cX10_of 54 = .ok (.getfield 139, 3) := by decide +kernel
theorem dX10_of_57 : decode cX10_of 57 = .ok (.iload_n 1, 1) := by decide +kernel
theorem dX10_of_58 : decode cX10_of 58 = .ok (.iaload, 1) := by decide +kernel
theorem dX10_of_59 : decode cX10_of 59 = .ok (.ireturn, 1) := by decide +kernel
theorem dX10_of_60 : decode cX10_of 60 = .ok (.iconst (-1), 1) := by decide +kernel
theorem dX10_of_61 : decode cX10_of 61 = .ok (.ireturn, 1) := by decide +kernel
theorem dX10_plant_0 : decode cX10_plant 0 = .ok (.aload_n 0, 1) := by decide +kernel
theorem dX10_plant_1 : decode cX10_plant 1 = .ok (.getfield 35, 3) := by decide +kernel
theorem dX10_plant_4 : decode cX10_plant 4 = .ok (.iload_n 1, 1) := by decide +kernel
theorem dX10_plant_5 : decode cX10_plant 5 = .ok (.invokevirtual 133, 3) := by decide +kernel
theorem dX10_plant_8 : decode cX10_plant 8 = .ok (.ifCond .ne 10, 3) := by decide +kernel
theorem dX10_plant_11 : decode cX10_plant 11 = .ok (.aload_n 0, 1) := by decide +kernel
theorem dX10_plant_12 : decode cX10_plant 12 = .ok (.bipush (-2), 2) := by decide +kernel
theorem dX10_plant_14 : decode cX10_plant 14 = .ok (.invokevirtual 89, 3) := by decide +kernel
theorem dX10_plant_17 : decode cX10_plant 17 = .ok (.ireturn, 1) := by decide +kernel
theorem dX10_plant_18 : decode cX10_plant 18 = .ok (.aload_n 0, 1) := by decide +kernel
theorem dX10_plant_19 : decode cX10_plant 19 = .ok (.getfield 35, 3) := by decide +kernel
theorem dX10_plant_22 : decode cX10_plant 22 = .ok (.getfield 139, 3) := by decide +kernel
theorem dX10_plant_25 : decode cX10_plant 25 = .ok (.iload_n 1, 1) := by decide +kernel
theorem dX10_plant_26 : decode cX10_plant 26 = .ok (.iaload, 1) := by decide +kernel
theorem dX10_plant_27 : decode cX10_plant 27 = .ok (.iconst (-1), 1) := by decide +kernel
theorem dX10_plant_28 : decode cX10_plant 28 = .ok (.if_icmp .eq 10, 3) := by decide +kernel
theorem dX10_plant_31 : decode cX10_plant 31 = .ok (.aload_n 0, 1) := by decide +kernel
theorem dX10_plant_32 : decode cX10_plant 32 = .ok (.bipush (-3), 2) := by decide +kernel
theorem dX10_plant_34 : decode cX10_plant 34 = .ok (.invokevirtual 89, 3) := by decide +kernel
theorem dX10_plant_37 : decode cX10_plant 37 = .ok (.ireturn, 1) := by decide +kernel
theorem dX10_plant_38 : decode cX10_plant 38 = .ok (.aload_n 0, 1) := by decide +kernel
theorem dX10_plant_39 : decode cX10_plant 39 = .ok (.getfield 35, 3) := by decide +kernel
theorem dX10_plant_42 : decode cX10_plant 42 = .ok (.getfield 139, 3) := by decide +kernel
theorem dX10_plant_45 : decode cX10_plant 45 = .ok (.iload_n 1, 1) := by decide +kernel
theorem dX10_plant_46 : decode cX10_plant 46 = .ok (.iconst 0, 1) := by decide +kernel
theorem dX10_plant_47 : decode cX10_plant 47 = .ok (.iastore, 1) := by decide +kernel
