theorem dX11_findPrices_159 : decode cX11_findPrices 159 = .ok (.goto (-82), 3) := by decide +kernel
theorem dX11_findPrices_162 : decode cX11_findPrices 162 = .ok (.return_, 1) := by decide +kernel
theorem dX11_at_0 : decode cX11_at 0 = .ok (.aload_n 0, 1) := by decide +kernel
theorem dX11_at_1 : decode cX11_at 1 = .ok (.iconst 0, 1) := by decide +kernel
theorem dX11_at_2 : decode cX11_at 2 = .ok (.putfield 102, 3) := by decide +kernel
theorem dX11_at_5 : decode cX11_at 5 = .ok (.iload_n 1, 1) := by decide +kernel
theorem dX11_at_6 : decode cX11_at 6 = .ok (.invokestatic 124, 3) := by decide +kernel
theorem dX11_at_9 : decode cX11_at 9 = .ok (.ifCond .eq 17, 3) := by decide +kernel
theorem dX11_at_12 : decode cX11_at 12 = .ok (.iload_n 2, 1) := by decide +kernel
theorem dX11_at_13 : decode cX11_at 13 = .ok (.invokestatic 130, 3) := by decide +kernel
theorem dX11_at_16 : decode cX11_at 16 = .ok (.ifCond .eq 10, 3) := by decide +kernel
theorem dX11_at_19 : decode cX11_at 19 = .ok (.iload_n 3, 1) := by decide +kernel
theorem dX11_at_20 : decode cX11_at 20 = .ok (.invokestatic 130, 3) := by decide +kernel
theorem dX11_at_23 : decode cX11_at 23 = .ok (.ifCond .ne 5, 3) := by decide +kernel
theorem dX11_at_26 : decode cX11_at 26 = .ok (.iconst (-1), 1) := by decide +kernel
theorem dX11_at_27 : decode cX11_at 27 = .ok (.ireturn, 1) := by decide +kernel
theorem dX11_at_28 : decode cX11_at 28 = .ok (.aload_n 0, 1) := by decide +kernel
theorem dX11_at_29 : decode cX11_at 29 = .ok (.iload_n 3, 1) := by decide +kernel
theorem dX11_at_30 : decode cX11_at 30 = .ok (.invokevirtual 138, 3) := by decide +kernel
theorem dX11_at_33 : decode cX11_at 33 = .ok (.aload_n 0, 1) := by decide +kernel
theorem dX11_at_34 : decode cX11_at 34 = .ok (.getfield 35, 3) := by decide +kernel
theorem dX11_at_37 : decode cX11_at 37 = .ok (.bipush 40, 2) := by decide +kernel
theorem dX11_at_39 : decode cX11_at 39 = .ok (.iload_n 1, 1) := by decide +kernel
theorem dX11_at_40 : decode cX11_at 40 = .ok (.imul, 1) := by decide +kernel
theorem dX11_at_41 : decode cX11_at 41 = .ok (.iload_n 2, 1) := by decide +kernel
theorem dX11_at_42 : decode cX11_at 42 = .ok (.iadd, 1) := by decide +kernel
theorem dX11_at_43 : decode cX11_at 43 = .ok (.iaload, 1) := by decide +kernel
theorem dX11_at_44 : decode cX11_at 44 = .ok (.ireturn, 1) := by decide +kernel
theorem dX11_terms_0 : decode cX11_terms 0 = .ok (.aload_n 0, 1) := by decide +kernel
theorem dX11_terms_1 : decode cX11_terms 1 = .ok (.iconst 0, 1) := by decide +kernel
theorem dX11_terms_2 : decode cX11_terms 2 = .ok (.putfield 102, 3) := by decide +kernel
theorem dX11_terms_5 : decode cX11_terms 5 = .ok (.iload_n 1, 1) := by decide +kernel
theorem dX11_terms_6 : decode cX11_terms 6 = .ok (.i2l, 1) := by decide +kernel
theorem dX11_terms_7 : decode cX11_terms 7 = .ok (.lconst 0, 1) := by decide +kernel
theorem dX11_terms_8 : decode cX11_terms 8 = .ok (.ldc2_w 128, 3) := by decide +kernel
theorem dX11_terms_11 : decode cX11_terms 11 = .ok (.invokestatic 110, 3) := by decide +kernel
theorem dX11_terms_14 : decode cX11_terms 14 = .ok (.ifCond .eq 15, 3) := by decide +kernel
theorem dX11_terms_17 : decode cX11_terms 17 = .ok (.iload_n 2, 1) := by decide +kernel
theorem dX11_terms_18 : decode cX11_terms 18 = .ok (.i2l, 1) := by decide +kernel
theorem dX11_terms_19 : decode cX11_terms 19 = .ok (.lconst 0, 1) := by decide +kernel
theorem dX11_terms_20 : decode cX11_terms 20 = .ok (.ldc2_w 128, 3) := by decide +kernel
theorem dX11_terms_23 : decode cX11_terms 23 = .ok (.invokestatic 110, 3) := by decide +kernel
theorem dX11_terms_26 : decode cX11_terms 26 = .ok (.ifCond .ne 9, 3) := by decide +kernel
theorem dX11_terms_29 : decode cX11_terms 29 = .ok (.aload_n 0, 1) := by decide +kernel
theorem dX11_terms_30 : decode cX11_terms 30 = .ok (.iconst (-1), 1) := by decide +kernel
theorem dX11_terms_31 : decode cX11_terms 31 = .ok (.invokevirtual 120, 3) := by decide +kernel
theorem dX11_terms_34 : decode cX11_terms 34 = .ok (.ireturn, 1) := by decide +kernel
theorem dX11_terms_35 : decode cX11_terms 35 = .ok (.aload_n 0, 1) := by decide +kernel
theorem dX11_terms_36 : decode cX11_terms 36 = .ok (.iload_n 1, 1) := by decide +kernel
theorem dX11_terms_37 : decode cX11_terms 37 = .ok (.putfield 16, 3) := by decide +kernel
theorem dX11_terms_40 : decode cX11_terms 40 = .ok (.aload_n 0, 1) := by decide +kernel
theorem dX11_terms_41 : decode cX11_terms 41 = .ok (.iload_n 2, 1) := by decide +kernel
theorem dX11_terms_42 : decode cX11_terms 42 = .ok (.putfield 20, 3) := by decide +kernel
theorem dX11_terms_45 : decode cX11_terms 45 = .ok (.aload_n 0, 1) := by decide +kernel
theorem dX11_terms_46 : decode cX11_terms 46 = .ok (.iconst 0, 1) := by decide +kernel
theorem dX11_terms_47 : decode cX11_terms 47 = .ok (.invokevirtual 120, 3) := by decide +kernel
theorem dX11_terms_50 : decode cX11_terms 50 = .ok (.ireturn, 1) := by decide +kernel
theorem dX11_isGarden_0 : decode cX11_isGarden 0 = .ok (.iload_n 1, 1) := by decide +kernel
theorem dX11_isGarden_1 : decode cX11_isGarden 1 = .ok (.i2l, 1) := by decide +kernel
theorem dX11_isGarden_2 : decode cX11_isGarden 2 = .ok (.lconst 0, 1) := by decide +kernel
theorem dX11_isGarden_3 : decode cX11_isGarden 3 = .ok (.aload_n 0, 1) := by decide +kernel
theorem dX11_isGarden_4 : decode cX11_isGarden 4 = .ok (.getfield 142, 3) := by decide +kernel
theorem dX11_isGarden_7 : decode cX11_isGarden 7 = .ok (.i2l, 1) := by decide +kernel
theorem dX11_isGarden_8 : decode cX11_isGarden 8 = .ok (.lconst 1, 1) := by decide +kernel
theorem dX11_isGarden_9 : decode cX11_isGarden 9 = .ok (.lsub, 1) := by decide +kernel
theorem dX11_isGarden_10 : decode cX11_isGarden 10 = .ok (.invokestatic 110, 3) := by decide +kernel
theorem dX11_isGarden_13 : decode cX11_isGarden 13 = .ok (.ireturn, 1) := by decide +kernel
theorem dX11_garden_0 : decode cX11_garden 0 = .ok (.aload_n 0, 1) := by decide +kernel
theorem dX11_garden_1 : decode cX11_garden 1 = .ok (.iconst 0, 1) := by decide +kernel
theorem dX11_garden_2 : decode cX11_garden 2 = .ok (.putfield 102, 3) := by decide +kernel
theorem dX11_garden_5 : decode cX11_garden 5 = .ok (.iload_n 1, 1) := by decide +kernel
theorem dX11_garden_6 : decode cX11_garden 6 = .ok (.i2l, 1) := by decide +kernel
theorem dX11_garden_7 : decode cX11_garden 7 = .ok (.lconst 1, 1) := by decide +kernel
theorem dX11_garden_8 : decode cX11_garden 8 = .ok (.ldc2_w 145, 3) := by decide +kernel
theorem dX11_garden_11 : decode cX11_garden 11 = .ok (.invokestatic 110, 3) := by decide +kernel
theorem dX11_garden_14 : decode cX11_garden 14 = .ok (.ifCond .eq 17, 3) := by decide +kernel
theorem dX11_garden_17 : decode cX11_garden 17 = .ok (.iload_n 2, 1) := by decide +kernel
theorem dX11_garden_18 : decode cX11_garden 18 = .ok (.i2l, 1) := by decide +kernel
theorem dX11_garden_19 : decode cX11_garden 19 = .ok (.ldc2_w 147, 3) := by decide +kernel
theorem dX11_garden_22 : decode cX11_garden 22 = .ok (.ldc2_w 116, 3) := by decide +kernel
theorem dX11_garden_25 : decode cX11_garden 25 = .ok (.invokestatic 110, 3) := by decide +kernel
theorem dX11_garden_28 : decode cX11_garden 28 = .ok (.ifCond .ne 9, 3) := by decide +kernel
theorem dX11_garden_31 : decode cX11_garden 31 = .ok (.aload_n 0, 1) := by decide +kernel
theorem dX11_garden_32 : decode cX11_garden 32 = .ok (.iconst (-1), 1) := by decide +kernel
theorem dX11_garden_33 : decode cX11_garden 33 = .ok (.invokevirtual 120, 3) := by decide +kernel
theorem dX11_garden_36 : decode cX11_garden 36 = .ok (.ireturn, 1) := by decide +kernel
theorem dX11_garden_37 : decode cX11_garden 37 = .ok (.aload_n 0, 1) := by decide +kernel
theorem dX11_garden_38 : decode cX11_garden 38 = .ok (.getfield 142, 3) := by decide +kernel
theorem dX11_garden_41 : decode cX11_garden 41 = .ok (.bipush 12, 2) := by decide +kernel
theorem dX11_garden_43 : decode cX11_garden 43 = .ok (.if_icmp .ne 10, 3) := by decide +kernel
theorem dX11_garden_46 : decode cX11_garden 46 = .ok (.aload_n 0, 1) := by decide +kernel
theorem dX11_garden_47 : decode cX11_garden 47 = .ok (.bipush (-5), 2) := by decide +kernel
theorem dX11_garden_49 : decode cX11_garden 49 = .ok (.invokevirtual 120, 3) := by decide +kernel
theorem dX11_garden_52 : decode cX11_garden 52 = .ok (.ireturn, 1) := by decide +kernel
theorem dX11_garden_53 : decode cX11_garden 53 = .ok (.aload_n 0, 1) := by decide +kernel
theorem dX11_garden_54 : decode cX11_garden 54 = .ok (.getfield 38, 3) := by decide +kernel
theorem dX11_garden_57 : decode cX11_garden 57 = .ok (.aload_n 0, 1) := by decide +kernel
theorem dX11_garden_58 : decode cX11_garden 58 = .ok (.getfield 142, 3) := by decide +kernel
theorem dX11_garden_61 : decode cX11_garden 61 = .ok (.iload_n 1, 1) := by decide +kernel
theorem dX11_garden_62 : decode cX11_garden 62 = .ok (.iastore, 1) := by decide +kernel
theorem dX11_garden_63 : decode cX11_garden 63 = .ok (.aload_n 0, 1) := by decide +kernel
theorem dX11_garden_64 : decode cX11_garden 64 = .ok (.getfield 41, 3) := by decide +kernel
theorem dX11_garden_67 : decode cX11_garden 67 = .ok (.aload_n 0, 1) := by decide +kernel
theorem dX11_garden_68 : decode cX11_garden 68 = .ok (.getfield 142, 3) := by decide +kernel
theorem dX11_garden_71 : decode cX11_garden 71 = .ok (.iload_n 2, 1) := by decide +kernel
theorem dX11_garden_72 : decode cX11_garden 72 = .ok (.iastore, 1) := by decide +kernel
theorem dX11_garden_73 : decode cX11_garden 73 = .ok (.aload_n 0, 1) := by decide +kernel
theorem dX11_garden_74 : decode cX11_garden 74 = .ok (.dup, 1) := by decide +kernel
theorem dX11_garden_75 : decode cX11_garden 75 = .ok (.getfield 142, 3) := by decide +kernel
theorem dX11_garden_78 : decode cX11_garden 78 = .ok (.iconst 1, 1) := by decide +kernel
theorem dX11_garden_79 : decode cX11_garden 79 = .ok (.iadd, 1) := by decide +kernel
theorem dX11_garden_80 : decode cX11_garden 80 = .ok (.putfield 142, 3) := by decide +kernel
theorem dX11_garden_83 : decode cX11_garden 83 = .ok (.aload_n 0, 1) := by decide +kernel
theorem dX11_garden_84 : decode cX11_garden 84 = .ok (.aload_n 0, 1) := by decide +kernel
theorem dX11_garden_85 : decode cX11_garden 85 = .ok (.getfield 142, 3) := by decide +kernel
theorem dX11_garden_88 : decode cX11_garden 88 = .ok (.iconst 1, 1) := by decide +kernel
theorem dX11_garden_89 : decode cX11_garden 89 = .ok (.isub, 1) := by decide +kernel
theorem dX11_garden_90 : decode cX11_garden 90 = .ok (.invokevirtual 120, 3) := by decide +kernel
theorem dX11_garden_93 : decode cX11_garden 93 = .ok (.ireturn, 1) := by decide +kernel
theorem dX11_of_0 : decode cX11_of 0 = .ok (.aload_n 0, 1) := by decide +kernel
theorem dX11_of_1 : decode cX11_of 1 = .ok (.iconst 0, 1) := by decide +kernel
theorem dX11_of_2 : decode cX11_of 2 = .ok (.putfield 102, 3) := by decide +kernel
theorem dX11_of_5 : decode cX11_of 5 = .ok (.aload_n 0, 1) := by decide +kernel
theorem dX11_of_6 : decode cX11_of 6 = .ok (.iload_n 1, 1) := by decide +kernel
theorem dX11_of_7 : decode cX11_of 7 = .ok (.invokevirtual 149, 3) := by decide +kernel
theorem dX11_of_10 : decode cX11_of 10 = .ok (.ifCond .ne 7, 3) := by decide +kernel
theorem dX11_of_13 : decode cX11_of 13 = .ok (.iconst (-1), 1) := by decide +kernel
theorem dX11_of_14 : decode cX11_of 14 = .ok (.goto 31, 3) := by decide +kernel
theorem dX11_of_17 : decode cX11_of 17 = .ok (.iload_n 2, 1) := by decide +kernel
theorem dX11_of_18 : decode cX11_of 18 = .ok (.ifCond .ne 12, 3) := by decide +kernel
theorem dX11_of_21 : decode cX11_of 21 = .ok (.aload_n 0, 1) := by decide +kernel
theorem dX11_of_22 : decode cX11_of 22 = .ok (.getfield 38, 3) := by decide +kernel
theorem dX11_of_25 : decode cX11_of 25 = .ok (.iload_n 1, 1) := by decide +kernel
theorem dX11_of_26 : decode cX11_of 26 = .ok (.iaload, 1) := by decide +kernel
theorem dX11_of_27 : decode cX11_of 27 = .ok (.goto 18, 3) := by decide +kernel
theorem dX11_of_30 : decode cX11_of 30 = .ok (.iload_n 2, 1) := by decide +kernel
theorem dX11_of_31 : decode cX11_of 31 = .ok (.iconst 1, 1) := by decide +kernel
theorem dX11_of_32 : decode cX11_of 32 = .ok (.if_icmp .ne 12, 3) := by decide +kernel
theorem dX11_of_35 : decode cX11_of 35 = .ok (.aload_n 0, 1) := by decide +kernel
theorem dX11_of_36 : decode cX11_of 36 = .ok (.getfield 41, 3) := by decide +kernel
theorem dX11_of_39 : decode cX11_of 39 = .ok (.iload_n 1, 1) := by decide +kernel
theorem dX11_of_40 : decode cX11_of 40 = .ok (.iaload, 1) := by decide +kernel
theorem dX11_of_41 : decode cX11_of 41 = .ok (.goto 4, 3) := by decide +kernel
theorem dX11_of_44 : decode cX11_of 44 = .ok (.iconst (-1), 1) := by decide +kernel
theorem dX11_of_45 : decode cX11_of 45 = .ok (.ireturn, 1) := by decide +kernel
theorem dX11_plant_0 : decode cX11_plant 0 = .ok (.aload_n 0, 1) := by decide +kernel
theorem dX11_plant_1 : decode cX11_plant 1 = .ok (.iconst 0, 1) := by decide +kernel
theorem dX11_plant_2 : decode cX11_plant 2 = .ok (.putfield 102, 3) := by decide +kernel
theorem dX11_plant_5 : decode cX11_plant 5 = .ok (.aload_n 0, 1) := by decide +kernel
theorem dX11_plant_6 : decode cX11_plant 6 = .ok (.iload_n 1, 1) := by decide +kernel
theorem dX11_plant_7 : decode cX11_plant 7 = .ok (.invokevirtual 149, 3) := by decide +kernel
theorem dX11_plant_10 : decode cX11_plant 10 = .ok (.ifCond .ne 10, 3) := by decide +kernel
theorem dX11_plant_13 : decode cX11_plant 13 = .ok (.aload_n 0, 1) := by decide +kernel
theorem dX11_plant_14 : decode cX11_plant 14 = .ok (.bipush (-2), 2) := by decide +kernel
theorem dX11_plant_16 : decode cX11_plant 16 = .ok (.invokevirtual 120, 3) := by decide +kernel
theorem dX11_plant_19 : decode cX11_plant 19 = .ok (.ireturn, 1) := by decide +kernel
theorem dX11_plant_20 : decode cX11_plant 20 = .ok (.aload_n 0, 1) := by decide +kernel
theorem dX11_plant_21 : decode cX11_plant 21 = .ok (.getfield 41, 3) := by decide +kernel
theorem dX11_plant_24 : decode cX11_plant 24 = .ok (.iload_n 1, 1) := by decide +kernel
theorem dX11_plant_25 : decode cX11_plant 25 = .ok (.iaload, 1) := by decide +kernel
theorem dX11_plant_26 : decode cX11_plant 26 = .ok (.iconst (-1), 1) := by decide +kernel
theorem dX11_plant_27 : decode cX11_plant 27 = .ok (.if_icmp .eq 10, 3) := by decide +kernel
theorem dX11_plant_30 : decode cX11_plant 30 = .ok (.aload_n 0, 1) := by decide +kernel
theorem dX11_plant_31 : decode cX11_plant 31 = .ok (.bipush (-3), 2) := by decide +kernel
theorem dX11_plant_33 : decode cX11_plant 33 = .ok (.invokevirtual 120, 3) := by decide +kernel
theorem dX11_plant_36 : decode cX11_plant 36 = .ok (.ireturn, 1) := by decide +kernel
theorem dX11_plant_37 : decode cX11_plant 37 = .ok (.aload_n 0, 1) := by decide +kernel
theorem dX11_plant_38 : decode cX11_plant 38 = .ok (.getfield 41, 3) := by decide +kernel
theorem dX11_plant_41 : decode cX11_plant 41 = .ok (.iload_n 1, 1) := by decide +kernel
theorem dX11_plant_42 : decode cX11_plant 42 = .ok (.iconst 0, 1) := by decide +kernel
theorem dX11_plant_43 : decode cX11_plant 43 = .ok (.iastore, 1) := by decide +kernel
theorem dX11_plant_44 : decode cX11_plant 44 = .ok (.aload_n 0, 1) := by decide +kernel
theorem dX11_plant_45 : decode cX11_plant 45 = .ok (.aload_n 0, 1) := by decide +kernel
theorem dX11_plant_46 : decode cX11_plant 46 = .ok (.getfield 20, 3) := by decide +kernel
theorem dX11_plant_49 : decode cX11_plant 49 = .ok (.aload_n 0, 1) := by decide +kernel
theorem dX11_plant_50 : decode cX11_plant 50 = .ok (.getfield 38, 3) := by decide +kernel
theorem dX11_plant_53 : decode cX11_plant 53 = .ok (.iload_n 1, 1) := by decide +kernel
theorem dX11_plant_54 : decode cX11_plant 54 = .ok (.iaload, 1) := by decide +kernel
theorem dX11_plant_55 : decode cX11_plant 55 = .ok (.imul, 1) := by decide +kernel
theorem dX11_plant_56 : decode cX11_plant 56 = .ok (.invokevirtual 120, 3) := by decide +kernel
theorem dX11_plant_59 : decode cX11_plant 59 = .ok (.ireturn, 1) := by decide +kernel
theorem dX11_fell_0 : decode cX11_fell 0 = .ok (.aload_n 0, 1) := by decide +kernel
theorem dX11_fell_1 : decode cX11_fell 1 = .ok (.iconst 0, 1) := by decide +kernel
theorem dX11_fell_2 : decode cX11_fell 2 = .ok (.putfield 102, 3) := by decide +kernel
theorem dX11_fell_5 : decode cX11_fell 5 = .ok (.aload_n 0, 1) := by decide +kernel
theorem dX11_fell_6 : decode cX11_fell 6 = .ok (.iload_n 1, 1) := by decide +kernel
theorem dX11_fell_7 : decode cX11_fell 7 = .ok (.invokevirtual 149, 3) := by decide +kernel
theorem dX11_fell_10 : decode cX11_fell 10 = .ok (.ifCond .ne 10, 3) := by decide +kernel
theorem dX11_fell_13 : decode cX11_fell 13 = .ok (.aload_n 0, 1) := by decide +kernel
theorem dX11_fell_14 : decode cX11_fell 14 = .ok (.bipush (-2), 2) := by decide +kernel
theorem dX11_fell_16 : decode cX11_fell 16 = .ok (.invokevirtual 120, 3) := by decide +kernel
theorem dX11_fell_19 : decode cX11_fell 19 = .ok (.ireturn, 1) := by decide +kernel
theorem dX11_fell_20 : decode cX11_fell 20 = .ok (.aload_n 0, 1) := by decide +kernel
theorem dX11_fell_21 : decode cX11_fell 21 = .ok (.getfield 41, 3) := by decide +kernel
theorem dX11_fell_24 : decode cX11_fell 24 = .ok (.iload_n 1, 1) := by decide +kernel
theorem dX11_fell_25 : decode cX11_fell 25 = .ok (.iaload, 1) := by decide +kernel
theorem dX11_fell_26 : decode cX11_fell 26 = .ok (.iconst (-1), 1) := by decide +kernel
theorem dX11_fell_27 : decode cX11_fell 27 = .ok (.if_icmp .ne 10, 3) := by decide +kernel
theorem dX11_fell_30 : decode cX11_fell 30 = .ok (.aload_n 0, 1) := by decide +kernel
theorem dX11_fell_31 : decode cX11_fell 31 = .ok (.bipush (-3), 2) := by decide +kernel
theorem dX11_fell_33 : decode cX11_fell 33 = .ok (.invokevirtual 120, 3) := by decide +kernel
theorem dX11_fell_36 : decode cX11_fell 36 = .ok (.ireturn, 1) := by decide +kernel
theorem dX11_fell_37 : decode cX11_fell 37 = .ok (.aload_n 0, 1) := by decide +kernel
theorem dX11_fell_38 : decode cX11_fell 38 = .ok (.getfield 41, 3) := by decide +kernel
theorem dX11_fell_41 : decode cX11_fell 41 = .ok (.iload_n 1, 1) := by decide +kernel
theorem dX11_fell_42 : decode cX11_fell 42 = .ok (.iconst (-1), 1) := by decide +kernel
theorem dX11_fell_43 : decode cX11_fell 43 = .ok (.iastore, 1) := by decide +kernel
theorem dX11_fell_44 : decode cX11_fell 44 = .ok (.aload_n 0, 1) := by decide +kernel
theorem dX11_fell_45 : decode cX11_fell 45 = .ok (.iconst 0, 1) := by decide +kernel
theorem dX11_fell_46 : decode cX11_fell 46 = .ok (.invokevirtual 120, 3) := by decide +kernel
theorem dX11_fell_49 : decode cX11_fell 49 = .ok (.ireturn, 1) := by decide +kernel
theorem dX11_freshOf_0 : decode cX11_freshOf 0 = .ok (.iload_n 2, 1) := by decide +kernel
theorem dX11_freshOf_1 : decode cX11_freshOf 1 = .ok (.iconst (-1), 1) := by decide +kernel
theorem dX11_freshOf_2 : decode cX11_freshOf 2 = .ok (.if_icmp .ne 7, 3) := by decide +kernel
theorem dX11_freshOf_5 : decode cX11_freshOf 5 = .ok (.iconst 0, 1) := by decide +kernel
theorem dX11_freshOf_6 : decode cX11_freshOf 6 = .ok (.goto 14, 3) := by decide +kernel
theorem dX11_freshOf_9 : decode cX11_freshOf 9 = .ok (.iload_n 1, 1) := by decide +kernel
theorem dX11_freshOf_10 : decode cX11_freshOf 10 = .ok (.aload_n 0, 1) := by decide +kernel
theorem dX11_freshOf_11 : decode cX11_freshOf 11 = .ok (.getfield 7, 3) := by decide +kernel
theorem dX11_freshOf_14 : decode cX11_freshOf 14 = .ok (.iload_n 2, 1) := by decide +kernel
theorem dX11_freshOf_15 : decode cX11_freshOf 15 = .ok (.iaload, 1) := by decide +kernel
theorem dX11_freshOf_16 : decode cX11_freshOf 16 = .ok (.imul, 1) := by decide +kernel
theorem dX11_freshOf_17 : decode cX11_freshOf 17 = .ok (.bipush 100, 2) := by decide +kernel
theorem dX11_freshOf_19 : decode cX11_freshOf 19 = .ok (.idiv, 1) := by decide +kernel
theorem dX11_freshOf_20 : decode cX11_freshOf 20 = .ok (.ireturn, 1) := by decide +kernel
theorem dX11_fresh_0 : decode cX11_fresh 0 = .ok (.aload_n 0, 1) := by decide +kernel
theorem dX11_fresh_1 : decode cX11_fresh 1 = .ok (.iconst 0, 1) := by decide +kernel
theorem dX11_fresh_2 : decode cX11_fresh 2 = .ok (.putfield 102, 3) := by decide +kernel
theorem dX11_fresh_5 : decode cX11_fresh 5 = .ok (.aload_n 0, 1) := by decide +kernel
theorem dX11_fresh_6 : decode cX11_fresh 6 = .ok (.iload_n 1, 1) := by decide +kernel
theorem dX11_fresh_7 : decode cX11_fresh 7 = .ok (.invokevirtual 149, 3) := by decide +kernel
theorem dX11_fresh_10 : decode cX11_fresh 10 = .ok (.ifCond .eq 22, 3) := by decide +kernel
theorem dX11_fresh_13 : decode cX11_fresh 13 = .ok (.aload_n 0, 1) := by decide +kernel
theorem dX11_fresh_14 : decode cX11_fresh 14 = .ok (.aload_n 0, 1) := by decide +kernel
theorem dX11_fresh_15 : decode cX11_fresh 15 = .ok (.getfield 38, 3) := by decide +kernel
theorem dX11_fresh_18 : decode cX11_fresh 18 = .ok (.iload_n 1, 1) := by decide +kernel
theorem dX11_fresh_19 : decode cX11_fresh 19 = .ok (.iaload, 1) := by decide +kernel
theorem dX11_fresh_20 : decode cX11_fresh 20 = .ok (.aload_n 0, 1) := by decide +kernel
theorem dX11_fresh_21 : decode cX11_fresh 21 = .ok (.getfield 41, 3) := by decide +kernel
theorem dX11_fresh_24 : decode cX11_fresh 24 = .ok (.iload_n 1, 1) := by decide +kernel
theorem dX11_fresh_25 : decode cX11_fresh 25 = .ok (.iaload, 1) := by decide +kernel
theorem dX11_fresh_26 : decode cX11_fresh 26 = .ok (.invokevirtual 152, 3) := by decide +kernel
theorem dX11_fresh_29 : decode cX11_fresh 29 = .ok (.goto 4, 3) := by decide +kernel
theorem dX11_fresh_32 : decode cX11_fresh 32 = .ok (.iconst (-1), 1) := by decide +kernel
theorem dX11_fresh_33 : decode cX11_fresh 33 = .ok (.ireturn, 1) := by decide +kernel
theorem dX11_findBest_0 : decode cX11_findBest 0 = .ok (.aload_n 0, 1) := by decide +kernel
theorem dX11_findBest_1 : decode cX11_findBest 1 = .ok (.iconst (-1), 1) := by decide +kernel
theorem dX11_findBest_2 : decode cX11_findBest 2 = .ok (.putfield 156, 3) := by decide +kernel
theorem dX11_findBest_5 : decode cX11_findBest 5 = .ok (.iconst 0, 1) := by decide +kernel
theorem dX11_findBest_6 : decode cX11_findBest 6 = .ok (.istore_n 3, 1) := by decide +kernel
theorem dX11_findBest_7 : decode cX11_findBest 7 = .ok (.iload_n 3, 1) := by decide +kernel
theorem dX11_findBest_8 : decode cX11_findBest 8 = .ok (.iconst 4, 1) := by decide +kernel
theorem dX11_findBest_9 : decode cX11_findBest 9 = .ok (.if_icmp .ge 75, 3) := by decide +kernel
theorem dX11_findBest_12 : decode cX11_findBest 12 = .ok (.iload_n 1, 1) := by decide +kernel
theorem dX11_findBest_13 : decode cX11_findBest 13 = .ok (.i2l, 1) := by decide +kernel
theorem dX11_findBest_14 : decode cX11_findBest 14 = .ok (.aload_n 0, 1) := by decide +kernel
theorem dX11_findBest_15 : decode cX11_findBest 15 = .ok (.getfield 13, 3) := by decide +kernel
theorem dX11_findBest_18 : decode cX11_findBest 18 = .ok (.iload_n 3, 1) := by decide +kernel
theorem dX11_findBest_19 : decode cX11_findBest 19 = .ok (.iaload, 1) := by decide +kernel
theorem dX11_findBest_20 : decode cX11_findBest 20 = .ok (.i2l, 1) := by decide +kernel
theorem dX11_findBest_21 : decode cX11_findBest 21 = .ok (.lmul, 1) := by decide +kernel
theorem dX11_findBest_22 : decode cX11_findBest 22 = .ok (.ldc2_w 128, 3) := by decide +kernel
theorem dX11_findBest_25 : decode cX11_findBest 25 = .ok (.ldiv, 1) := by decide +kernel
theorem dX11_findBest_26 : decode cX11_findBest 26 = .ok (.l2i, 1) := by decide +kernel
theorem dX11_findBest_27 : decode cX11_findBest 27 = .ok (.istore 4, 2) := by decide +kernel
theorem dX11_findBest_29 : decode cX11_findBest 29 = .ok (.iload 4, 2) := by decide +kernel
theorem dX11_findBest_31 : decode cX11_findBest 31 = .ok (.aload_n 0, 1) := by decide +kernel
theorem dX11_findBest_32 : decode cX11_findBest 32 = .ok (.getfield 35, 3) := by decide +kernel
theorem dX11_findBest_35 : decode cX11_findBest 35 = .ok (.bipush 40, 2) := by decide +kernel
theorem dX11_findBest_37 : decode cX11_findBest 37 = .ok (.iload_n 3, 1) := by decide +kernel
theorem dX11_findBest_38 : decode cX11_findBest 38 = .ok (.imul, 1) := by decide +kernel
theorem dX11_findBest_39 : decode cX11_findBest 39 = .ok (.iload_n 2, 1) := by decide +kernel
theorem dX11_findBest_40 : decode cX11_findBest 40 = .ok (.iadd, 1) := by decide +kernel
theorem dX11_findBest_41 : decode cX11_findBest 41 = .ok (.iaload, 1) := by decide +kernel
theorem dX11_findBest_42 : decode cX11_findBest 42 = .ok (.imul, 1) := by decide +kernel
theorem dX11_findBest_43 : decode cX11_findBest 43 = .ok (.istore 5, 2) := by decide +kernel
theorem dX11_findBest_45 : decode cX11_findBest 45 = .ok (.aload_n 0, 1) := by decide +kernel
theorem dX11_findBest_46 : decode cX11_findBest 46 = .ok (.getfield 156, 3) := by decide +kernel
theorem dX11_findBest_49 : decode cX11_findBest 49 = .ok (.ifCond .lt 12, 3) := by decide +kernel
theorem dX11_findBest_52 : decode cX11_findBest 52 = .ok (.iload 5, 2) := by decide +kernel
theorem dX11_findBest_54 : decode cX11_findBest 54 = .ok (.aload_n 0, 1) := by decide +kernel
theorem dX11_findBest_55 : decode cX11_findBest 55 = .ok (.getfield 159, 3) := by decide +kernel
theorem dX11_findBest_58 : decode cX11_findBest 58 = .ok (.if_icmp .le 20, 3) := by decide +kernel
theorem dX11_findBest_61 : decode cX11_findBest 61 = .ok (.aload_n 0, 1) := by decide +kernel
theorem dX11_findBest_62 : decode cX11_findBest 62 = .ok (.iload_n 3, 1) := by decide +kernel
theorem dX11_findBest_63 : decode cX11_findBest 63 = .ok (.putfield 156, 3) := by decide +kernel
theorem dX11_findBest_66 : decode cX11_findBest 66 = .ok (.aload_n 0, 1) := by decide +kernel
theorem dX11_findBest_67 : decode cX11_findBest 67 = .ok (.iload 4, 2) := by decide +kernel
theorem dX11_findBest_69 : decode cX11_findBest 69 = .ok (.putfield 162, 3) := by decide +kernel
theorem dX11_findBest_72 : decode cX11_findBest 72 = .ok (.aload_n 0, 1) := by decide +kernel
theorem dX11_findBest_73 : decode cX11_findBest 73 = .ok (.iload 5, 2) := by decide +kernel
theorem dX11_findBest_75 : decode cX11_findBest 75 = .ok (.putfield 159, 3) := by decide +kernel
theorem dX11_findBest_78 : decode cX11_findBest 78 = .ok (.iinc 3 1, 3) := by decide +kernel
theorem dX11_findBest_81 : decode cX11_findBest 81 = .ok (.goto (-74), 3) := by decide +kernel
theorem dX11_findBest_84 : decode cX11_findBest 84 = .ok (.return_, 1) := by decide +kernel
theorem dX11_best_0 : decode cX11_best 0 = .ok (.aload_n 0, 1) := by decide +kernel
theorem dX11_best_1 : decode cX11_best 1 = .ok (.iconst 0, 1) := by decide +kernel
theorem dX11_best_2 : decode cX11_best 2 = .ok (.putfield 102, 3) := by decide +kernel
theorem dX11_best_5 : decode cX11_best 5 = .ok (.iload_n 1, 1) := by decide +kernel
theorem dX11_best_6 : decode cX11_best 6 = .ok (.i2l, 1) := by decide +kernel
theorem dX11_best_7 : decode cX11_best 7 = .ok (.lconst 0, 1) := by decide +kernel
theorem dX11_best_8 : decode cX11_best 8 = .ok (.ldc2_w 165, 3) := by decide +kernel
theorem dX11_best_11 : decode cX11_best 11 = .ok (.invokestatic 110, 3) := by decide +kernel
theorem dX11_best_14 : decode cX11_best 14 = .ok (.ifCond .eq 30, 3) := by decide +kernel
theorem dX11_best_17 : decode cX11_best 17 = .ok (.iload_n 2, 1) := by decide +kernel
theorem dX11_best_18 : decode cX11_best 18 = .ok (.invokestatic 130, 3) := by decide +kernel
theorem dX11_best_21 : decode cX11_best 21 = .ok (.ifCond .eq 23, 3) := by decide +kernel
theorem dX11_best_24 : decode cX11_best 24 = .ok (.iload_n 3, 1) := by decide +kernel
theorem dX11_best_25 : decode cX11_best 25 = .ok (.invokestatic 130, 3) := by decide +kernel
theorem dX11_best_28 : decode cX11_best 28 = .ok (.ifCond .eq 16, 3) := by decide +kernel
theorem dX11_best_31 : decode cX11_best 31 = .ok (.iload 4, 2) := by decide +kernel
theorem dX11_best_33 : decode cX11_best 33 = .ok (.i2l, 1) := by decide +kernel
theorem dX11_best_34 : decode cX11_best 34 = .ok (.lconst 0, 1) := by decide +kernel
theorem dX11_best_35 : decode cX11_best 35 = .ok (.ldc2_w 167, 3) := by decide +kernel
theorem dX11_best_38 : decode cX11_best 38 = .ok (.invokestatic 110, 3) := by decide +kernel
theorem dX11_best_41 : decode cX11_best 41 = .ok (.ifCond .ne 5, 3) := by decide +kernel
theorem dX11_best_44 : decode cX11_best 44 = .ok (.iconst (-1), 1) := by decide +kernel
theorem dX11_best_45 : decode cX11_best 45 = .ok (.ireturn, 1) := by decide +kernel
theorem dX11_best_46 : decode cX11_best 46 = .ok (.aload_n 0, 1) := by decide +kernel
theorem dX11_best_47 : decode cX11_best 47 = .ok (.iload_n 3, 1) := by decide +kernel
theorem dX11_best_48 : decode cX11_best 48 = .ok (.invokevirtual 138, 3) := by decide +kernel
theorem dX11_best_51 : decode cX11_best 51 = .ok (.aload_n 0, 1) := by decide +kernel
theorem dX11_best_52 : decode cX11_best 52 = .ok (.iload_n 1, 1) := by decide +kernel
theorem dX11_best_53 : decode cX11_best 53 = .ok (.iload_n 2, 1) := by decide +kernel
theorem dX11_best_54 : decode cX11_best 54 = .ok (.invokevirtual 169, 3) := by decide +kernel
theorem dX11_best_57 : decode cX11_best 57 = .ok (.iload 4, 2) := by decide +kernel
theorem dX11_best_59 : decode cX11_best 59 = .ok (.ifCond .ne 10, 3) := by decide +kernel
theorem dX11_best_62 : decode cX11_best 62 = .ok (.aload_n 0, 1) := by decide +kernel
theorem dX11_best_63 : decode cX11_best 63 = .ok (.getfield 156, 3) := by decide +kernel
theorem dX11_best_66 : decode cX11_best 66 = .ok (.goto 20, 3) := by decide +kernel
theorem dX11_best_69 : decode cX11_best 69 = .ok (.iload 4, 2) := by decide +kernel
theorem dX11_best_71 : decode cX11_best 71 = .ok (.iconst 1, 1) := by decide +kernel
theorem dX11_best_72 : decode cX11_best 72 = .ok (.if_icmp .ne 10, 3) := by decide +kernel
theorem dX11_best_75 : decode cX11_best 75 = .ok (.aload_n 0, 1) := by decide +kernel
theorem dX11_best_76 : decode cX11_best 76 = .ok (.getfield 162, 3) := by decide +kernel
theorem dX11_best_79 : decode cX11_best 79 = .ok (.goto 7, 3) := by decide +kernel
theorem dX11_best_82 : decode cX11_best 82 = .ok (.aload_n 0, 1) := by decide +kernel
theorem dX11_best_83 : decode cX11_best 83 = .ok (.getfield 159, 3) := by decide +kernel
theorem dX11_best_86 : decode cX11_best 86 = .ok (.ireturn, 1) := by decide +kernel
theorem dX11_four_0 : decode cX11_four 0 = .ok (.bipush 24, 2) := by decide +kernel
theorem dX11_four_2 : decode cX11_four 2 = .ok (.istore_n 2, 1) := by decide +kernel
theorem dX11_four_3 : decode cX11_four 3 = .ok (.iload_n 2, 1) := by decide +kernel
theorem dX11_four_4 : decode cX11_four 4 = .ok (.ifCond .lt 35, 3) := by decide +kernel
theorem dX11_four_7 : decode cX11_four 7 = .ok (.aload_n 0, 1) := by decide +kernel
theorem dX11_four_8 : decode cX11_four 8 = .ok (.getfield 59, 3) := by decide +kernel
theorem dX11_four_11 : decode cX11_four 11 = .ok (.aload_n 0, 1) := by decide +kernel
theorem dX11_four_12 : decode cX11_four 12 = .ok (.getfield 173, 3) := by decide +kernel
theorem dX11_four_15 : decode cX11_four 15 = .ok (.iload_n 1, 1) := by decide +kernel
theorem dX11_four_16 : decode cX11_four 16 = .ok (.iload_n 2, 1) := by decide +kernel
theorem dX11_four_17 : decode cX11_four 17 = .ok (.ishr, 1) := by decide +kernel
theorem dX11_four_18 : decode cX11_four 18 = .ok (.sipush 255, 3) := by decide +kernel
theorem dX11_four_21 : decode cX11_four 21 = .ok (.iand, 1) := by decide +kernel
theorem dX11_four_22 : decode cX11_four 22 = .ok (.iastore, 1) := by decide +kernel
theorem dX11_four_23 : decode cX11_four 23 = .ok (.aload_n 0, 1) := by decide +kernel
theorem dX11_four_24 : decode cX11_four 24 = .ok (.dup, 1) := by decide +kernel
theorem dX11_four_25 : decode cX11_four 25 = .ok (.getfield 173, 3) := by decide +kernel
theorem dX11_four_28 : decode cX11_four 28 = .ok (.iconst 1, 1) := by decide +kernel
theorem dX11_four_29 : decode cX11_four 29 = .ok (.iadd, 1) := by decide +kernel
theorem dX11_four_30 : decode cX11_four 30 = .ok (.putfield 173, 3) := by decide +kernel
theorem dX11_four_33 : decode cX11_four 33 = .ok (.iinc 2 (-8), 3) := by decide +kernel
theorem dX11_four_36 : decode cX11_four 36 = .ok (.goto (-33), 3) := by decide +kernel
theorem dX11_four_39 : decode cX11_four 39 = .ok (.return_, 1) := by decide +kernel
theorem dX11_feed_0 : decode cX11_feed 0 = .ok (.aload_n 0, 1) := by decide +kernel
theorem dX11_feed_1 : decode cX11_feed 1 = .ok (.iconst 0, 1) := by decide +kernel
theorem dX11_feed_2 : decode cX11_feed 2 = .ok (.putfield 102, 3) := by decide +kernel
theorem dX11_feed_5 : decode cX11_feed 5 = .ok (.aload_n 0, 1) := by decide +kernel
theorem dX11_feed_6 : decode cX11_feed 6 = .ok (.getfield 173, 3) := by decide +kernel
theorem dX11_feed_9 : decode cX11_feed 9 = .ok (.bipush 20, 2) := by decide +kernel
theorem dX11_feed_11 : decode cX11_feed 11 = .ok (.iadd, 1) := by decide +kernel
theorem dX11_feed_12 : decode cX11_feed 12 = .ok (.sipush 200, 3) := by decide +kernel
theorem dX11_feed_15 : decode cX11_feed 15 = .ok (.if_icmp .le 5, 3) := by decide +kernel
theorem dX11_feed_18 : decode cX11_feed 18 = .ok (.iconst (-1), 1) := by decide +kernel
theorem dX11_feed_19 : decode cX11_feed 19 = .ok (.ireturn, 1) := by decide +kernel
theorem dX11_feed_20 : decode cX11_feed 20 = .ok (.aload_n 0, 1) := by decide +kernel
theorem dX11_feed_21 : decode cX11_feed 21 = .ok (.iload_n 1, 1) := by decide +kernel
theorem dX11_feed_22 : decode cX11_feed 22 = .ok (.invokevirtual 176, 3) := by decide +kernel
theorem dX11_feed_25 : decode cX11_feed 25 = .ok (.aload_n 0, 1) := by decide +kernel
theorem dX11_feed_26 : decode cX11_feed 26 = .ok (.iload_n 2, 1) := by decide +kernel
theorem dX11_feed_27 : decode cX11_feed 27 = .ok (.invokevirtual 176, 3) := by decide +kernel
theorem dX11_feed_30 : decode cX11_feed 30 = .ok (.aload_n 0, 1) := by decide +kernel
theorem dX11_feed_31 : decode cX11_feed 31 = .ok (.iload_n 3, 1) := by decide +kernel
theorem dX11_feed_32 : decode cX11_feed 32 = .ok (.invokevirtual 176, 3) := by decide +kernel
theorem dX11_feed_35 : decode cX11_feed 35 = .ok (.aload_n 0, 1) := by decide +kernel
theorem dX11_feed_36 : decode cX11_feed 36 = .ok (.iload 4, 2) := by decide +kernel
theorem dX11_feed_38 : decode cX11_feed 38 = .ok (.invokevirtual 176, 3) := by decide +kernel
theorem dX11_feed_41 : decode cX11_feed 41 = .ok (.aload_n 0, 1) := by decide +kernel
theorem dX11_feed_42 : decode cX11_feed 42 = .ok (.iload 5, 2) := by decide +kernel
theorem dX11_feed_44 : decode cX11_feed 44 = .ok (.invokevirtual 176, 3) := by decide +kernel
theorem dX11_feed_47 : decode cX11_feed 47 = .ok (.aload_n 0, 1) := by decide +kernel
theorem dX11_feed_48 : decode cX11_feed 48 = .ok (.getfield 173, 3) := by decide +kernel
theorem dX11_feed_51 : decode cX11_feed 51 = .ok (.ireturn, 1) := by decide +kernel
theorem dX11_end_0 : decode cX11_end 0 = .ok (.aload_n 0, 1) := by decide +kernel
theorem dX11_end_1 : decode cX11_end 1 = .ok (.iconst 0, 1) := by decide +kernel
theorem dX11_end_2 : decode cX11_end 2 = .ok (.putfield 102, 3) := by decide +kernel
theorem dX11_end_5 : decode cX11_end 5 = .ok (.iload_n 1, 1) := by decide +kernel
theorem dX11_end_6 : decode cX11_end 6 = .ok (.ifCond .lt 11, 3) := by decide +kernel
theorem dX11_end_9 : decode cX11_end 9 = .ok (.iload_n 1, 1) := by decide +kernel
theorem dX11_end_10 : decode cX11_end 10 = .ok (.aload_n 0, 1) := by decide +kernel
theorem dX11_end_11 : decode cX11_end 11 = .ok (.getfield 173, 3) := by decide +kernel
theorem dX11_end_14 : decode cX11_end 14 = .ok (.if_icmp .le 5, 3) := by decide +kernel
theorem dX11_end_17 : decode cX11_end 17 = .ok (.iconst (-1), 1) := by decide +kernel
theorem dX11_end_18 : decode cX11_end 18 = .ok (.ireturn, 1) := by decide +kernel
theorem dX11_end_19 : decode cX11_end 19 = .ok (.aload_n 0, 1) := by decide +kernel
theorem dX11_end_20 : decode cX11_end 20 = .ok (.iload_n 1, 1) := by decide +kernel
theorem dX11_end_21 : decode cX11_end 21 = .ok (.putfield 173, 3) := by decide +kernel
theorem dX11_end_24 : decode cX11_end 24 = .ok (.iload_n 1, 1) := by decide +kernel
theorem dX11_end_25 : decode cX11_end 25 = .ok (.ireturn, 1) := by decide +kernel
theorem dX11_isSmall_0 : decode cX11_isSmall 0 = .ok (.iload_n 0, 1) := by decide +kernel
theorem dX11_isSmall_1 : decode cX11_isSmall 1 = .ok (.bipush 97, 2) := by decide +kernel
theorem dX11_isSmall_3 : decode cX11_isSmall 3 = .ok (.if_icmp .lt 13, 3) := by decide +kernel
theorem dX11_isSmall_6 : decode cX11_isSmall 6 = .ok (.iload_n 0, 1) := by decide +kernel
theorem dX11_isSmall_7 : decode cX11_isSmall 7 = .ok (.bipush 122, 2) := by decide +kernel
theorem dX11_isSmall_9 : decode cX11_isSmall 9 = .ok (.if_icmp .gt 7, 3) := by decide +kernel
theorem dX11_isSmall_12 : decode cX11_isSmall 12 = .ok (.iconst 1, 1) := by decide +kernel
theorem dX11_isSmall_13 : decode cX11_isSmall 13 = .ok (.goto 4, 3) := by decide +kernel
theorem dX11_isSmall_16 : decode cX11_isSmall 16 = .ok (.iconst 0, 1) := by decide +kernel
theorem dX11_isSmall_17 : decode cX11_isSmall 17 = .ok (.ireturn, 1) := by decide +kernel
theorem dX11_isDigit_0 : decode cX11_isDigit 0 = .ok (.iload_n 0, 1) := by decide +kernel
theorem dX11_isDigit_1 : decode cX11_isDigit 1 = .ok (.bipush 48, 2) := by decide +kernel
theorem dX11_isDigit_3 : decode cX11_isDigit 3 = .ok (.if_icmp .lt 13, 3) := by decide +kernel
theorem dX11_isDigit_6 : decode cX11_isDigit 6 = .ok (.iload_n 0, 1) := by decide +kernel
theorem dX11_isDigit_7 : decode cX11_isDigit 7 = .ok (.bipush 57, 2) := by decide +kernel
theorem dX11_isDigit_9 : decode cX11_isDigit 9 = .ok (.if_icmp .gt 7, 3) := by decide +kernel
theorem dX11_isDigit_12 : decode cX11_isDigit 12 = .ok (.iconst 1, 1) := by decide +kernel
theorem dX11_isDigit_13 : decode cX11_isDigit 13 = .ok (.goto 4, 3) := by decide +kernel
theorem dX11_isDigit_16 : decode cX11_isDigit 16 = .ok (.iconst 0, 1) := by decide +kernel
theorem dX11_isDigit_17 : decode cX11_isDigit 17 = .ok (.ireturn, 1) := by decide +kernel
theorem dX11_next_0 : decode cX11_next 0 = .ok (.aload_n 0, 1) := by decide +kernel
theorem dX11_next_1 : decode cX11_next 1 = .ok (.aload_n 0, 1) := by decide +kernel
theorem dX11_next_2 : decode cX11_next 2 = .ok (.getfield 179, 3) := by decide +kernel
theorem dX11_next_5 : decode cX11_next 5 = .ok (.putfield 182, 3) := by decide +kernel
theorem dX11_next_8 : decode cX11_next 8 = .ok (.aload_n 0, 1) := by decide +kernel
theorem dX11_next_9 : decode cX11_next 9 = .ok (.getfield 182, 3) := by decide +kernel
theorem dX11_next_12 : decode cX11_next 12 = .ok (.aload_n 0, 1) := by decide +kernel
theorem dX11_next_13 : decode cX11_next 13 = .ok (.getfield 173, 3) := by decide +kernel
theorem dX11_next_16 : decode cX11_next 16 = .ok (.if_icmp .ge 30, 3) := by decide +kernel
theorem dX11_next_19 : decode cX11_next 19 = .ok (.aload_n 0, 1) := by decide +kernel
theorem dX11_next_20 : decode cX11_next 20 = .ok (.getfield 59, 3) := by decide +kernel
theorem dX11_next_23 : decode cX11_next 23 = .ok (.aload_n 0, 1) := by decide +kernel
theorem dX11_next_24 : decode cX11_next 24 = .ok (.getfield 182, 3) := by decide +kernel
theorem dX11_next_27 : decode cX11_next 27 = .ok (.iaload, 1) := by decide +kernel
theorem dX11_next_28 : decode cX11_next 28 = .ok (.bipush 32, 2) := by decide +kernel
theorem dX11_next_30 : decode cX11_next 30 = .ok (.if_icmp .ne 16, 3) := by decide +kernel
theorem dX11_next_33 : decode cX11_next 33 = .ok (.aload_n 0, 1) := by decide +kernel
theorem dX11_next_34 : decode cX11_next 34 = .ok (.dup, 1) := by decide +kernel
theorem dX11_next_35 : decode cX11_next 35 = .ok (.getfield 182, 3) := by decide +kernel
theorem dX11_next_38 : decode cX11_next 38 = .ok (.iconst 1, 1) := by decide +kernel
theorem dX11_next_39 : decode cX11_next 39 = .ok (.iadd, 1) := by decide +kernel
theorem dX11_next_40 : decode cX11_next 40 = .ok (.putfield 182, 3) := by decide +kernel
theorem dX11_next_43 : decode cX11_next 43 = .ok (.goto (-35), 3) := by decide +kernel
theorem dX11_next_46 : decode cX11_next 46 = .ok (.aload_n 0, 1) := by decide +kernel
theorem dX11_next_47 : decode cX11_next 47 = .ok (.aload_n 0, 1) := by decide +kernel
theorem dX11_next_48 : decode cX11_next 48 = .ok (.getfield 182, 3) := by decide +kernel
theorem dX11_next_51 : decode cX11_next 51 = .ok (.putfield 179, 3) := by decide +kernel
theorem dX11_next_54 : decode cX11_next 54 = .ok (.aload_n 0, 1) := by decide +kernel
theorem dX11_next_55 : decode cX11_next 55 = .ok (.lconst 0, 1) := by decide +kernel
theorem dX11_next_56 : decode cX11_next 56 = .ok (.putfield 185, 3) := by decide +kernel
theorem dX11_next_59 : decode cX11_next 59 = .ok (.aload_n 0, 1) := by decide +kernel
theorem dX11_next_60 : decode cX11_next 60 = .ok (.aload_n 0, 1) := by decide +kernel
theorem dX11_next_61 : decode cX11_next 61 = .ok (.getfield 182, 3) := by decide +kernel
theorem dX11_next_64 : decode cX11_next 64 = .ok (.aload_n 0, 1) := by decide +kernel
theorem dX11_next_65 : decode cX11_next 65 = .ok (.getfield 173, 3) := by decide +kernel
theorem dX11_next_68 : decode cX11_next 68 = .ok (.if_icmp .ne 7, 3) := by decide +kernel
theorem dX11_next_71 : decode cX11_next 71 = .ok (.iconst 0, 1) := by decide +kernel
theorem dX11_next_72 : decode cX11_next 72 = .ok (.goto 42, 3) := by decide +kernel
theorem dX11_next_75 : decode cX11_next 75 = .ok (.aload_n 0, 1) := by decide +kernel
theorem dX11_next_76 : decode cX11_next 76 = .ok (.getfield 59, 3) := by decide +kernel
theorem dX11_next_79 : decode cX11_next 79 = .ok (.aload_n 0, 1) := by decide +kernel
theorem dX11_next_80 : decode cX11_next 80 = .ok (.getfield 182, 3) := by decide +kernel
theorem dX11_next_83 : decode cX11_next 83 = .ok (.iaload, 1) := by decide +kernel
theorem dX11_next_84 : decode cX11_next 84 = .ok (.invokestatic 189, 3) := by decide +kernel
theorem dX11_next_87 : decode cX11_next 87 = .ok (.ifCond .eq 7, 3) := by decide +kernel
theorem dX11_next_90 : decode cX11_next 90 = .ok (.iconst 1, 1) := by decide +kernel
theorem dX11_next_91 : decode cX11_next 91 = .ok (.goto 23, 3) := by decide +kernel
theorem dX11_next_94 : decode cX11_next 94 = .ok (.aload_n 0, 1) := by decide +kernel
theorem dX11_next_95 : decode cX11_next 95 = .ok (.getfield 59, 3) := by decide +kernel
theorem dX11_next_98 : decode cX11_next 98 = .ok (.aload_n 0, 1) := by decide +kernel
theorem dX11_next_99 : decode cX11_next 99 = .ok (.getfield 182, 3) := by decide +kernel
theorem dX11_next_102 : decode cX11_next 102 = .ok (.iaload, 1) := by decide +kernel
theorem dX11_next_103 : decode cX11_next 103 = .ok (.invokestatic 192, 3) := by decide +kernel
theorem dX11_next_106 : decode cX11_next 106 = .ok (.ifCond .eq 7, 3) := by decide +kernel
theorem dX11_next_109 : decode cX11_next 109 = .ok (.iconst 2, 1) := by decide +kernel
theorem dX11_next_110 : decode cX11_next 110 = .ok (.goto 4, 3) := by decide +kernel
theorem dX11_next_113 : decode cX11_next 113 = .ok (.iconst 3, 1) := by decide +kernel
theorem dX11_next_114 : decode cX11_next 114 = .ok (.putfield 195, 3) := by decide +kernel
theorem dX11_next_117 : decode cX11_next 117 = .ok (.aload_n 0, 1) := by decide +kernel
theorem dX11_next_118 : decode cX11_next 118 = .ok (.getfield 195, 3) := by decide +kernel
theorem dX11_next_121 : decode cX11_next 121 = .ok (.iconst 3, 1) := by decide +kernel
theorem dX11_next_122 : decode cX11_next 122 = .ok (.if_icmp .ne 27, 3) := by decide +kernel
theorem dX11_next_125 : decode cX11_next 125 = .ok (.aload_n 0, 1) := by decide +kernel
theorem dX11_next_126 : decode cX11_next 126 = .ok (.aload_n 0, 1) := by decide +kernel
theorem dX11_next_127 : decode cX11_next 127 = .ok (.getfield 59, 3) := by decide +kernel
theorem dX11_next_130 : decode cX11_next 130 = .ok (.aload_n 0, 1) := by decide +kernel
theorem dX11_next_131 : decode cX11_next 131 = .ok (.getfield 182, 3) := by decide +kernel
theorem dX11_next_134 : decode cX11_next 134 = .ok (.iaload, 1) := by decide +kernel
theorem dX11_next_135 : decode cX11_next 135 = .ok (.i2l, 1) := by decide +kernel
theorem dX11_next_136 : decode cX11_next 136 = .ok (.putfield 185, 3) := by decide +kernel
theorem dX11_next_139 : decode cX11_next 139 = .ok (.aload_n 0, 1) := by decide +kernel
theorem dX11_next_140 : decode cX11_next 140 = .ok (.dup, 1) := by decide +kernel
theorem dX11_next_141 : decode cX11_next 141 = .ok (.getfield 179, 3) := by decide +kernel
theorem dX11_next_144 : decode cX11_next 144 = .ok (.iconst 1, 1) := by decide +kernel
theorem dX11_next_145 : decode cX11_next 145 = .ok (.iadd, 1) := by decide +kernel
theorem dX11_next_146 : decode cX11_next 146 = .ok (.putfield 179, 3) := by decide +kernel
theorem dX11_next_149 : decode cX11_next 149 = .ok (.aload_n 0, 1) := by decide +kernel
theorem dX11_next_150 : decode cX11_next 150 = .ok (.getfield 195, 3) := by decide +kernel
theorem dX11_next_153 : decode cX11_next 153 = .ok (.iconst 1, 1) := by decide +kernel
theorem dX11_next_154 : decode cX11_next 154 = .ok (.if_icmp .ne 89, 3) := by decide +kernel
theorem dX11_next_157 : decode cX11_next 157 = .ok (.aload_n 0, 1) := by decide +kernel
theorem dX11_next_158 : decode cX11_next 158 = .ok (.getfield 179, 3) := by decide +kernel
theorem dX11_next_161 : decode cX11_next 161 = .ok (.aload_n 0, 1) := by decide +kernel
theorem dX11_next_162 : decode cX11_next 162 = .ok (.getfield 173, 3) := by decide +kernel
theorem dX11_next_165 : decode cX11_next 165 = .ok (.if_icmp .ge 78, 3) := by decide +kernel
theorem dX11_next_168 : decode cX11_next 168 = .ok (.aload_n 0, 1) := by decide +kernel
theorem dX11_next_169 : decode cX11_next 169 = .ok (.getfield 59, 3) := by decide +kernel
theorem dX11_next_172 : decode cX11_next 172 = .ok (.aload_n 0, 1) := by decide +kernel
theorem dX11_next_173 : decode cX11_next 173 = .ok (.getfield 179, 3) := by decide +kernel
theorem dX11_next_176 : decode cX11_next 176 = .ok (.iaload, 1) := by decide +kernel
theorem dX11_next_177 : decode cX11_next 177 = .ok (.invokestatic 189, 3) := by decide +kernel
theorem dX11_next_180 : decode cX11_next 180 = .ok (.ifCond .eq 63, 3) := by decide +kernel
theorem dX11_next_183 : decode cX11_next 183 = .ok (.aload_n 0, 1) := by decide +kernel
theorem dX11_next_184 : decode cX11_next 184 = .ok (.aload_n 0, 1) := by decide +kernel
theorem dX11_next_185 : decode cX11_next 185 = .ok (.getfield 179, 3) := by decide +kernel
theorem dX11_next_188 : decode cX11_next 188 = .ok (.aload_n 0, 1) := by decide +kernel
theorem dX11_next_189 : decode cX11_next 189 = .ok (.getfield 182, 3) := by decide +kernel
theorem dX11_next_192 : decode cX11_next 192 = .ok (.isub, 1) := by decide +kernel
theorem dX11_next_193 : decode cX11_next 193 = .ok (.bipush 6, 2) := by decide +kernel
theorem dX11_next_195 : decode cX11_next 195 = .ok (.if_icmp .ge 29, 3) := by decide +kernel
theorem dX11_next_198 : decode cX11_next 198 = .ok (.aload_n 0, 1) := by decide +kernel
theorem dX11_next_199 : decode cX11_next 199 = .ok (.getfield 185, 3) := by decide +kernel
theorem dX11_next_202 : decode cX11_next 202 = .ok (.ldc2_w 198, 3) := by decide +kernel
theorem dX11_next_205 : decode cX11_next 205 = .ok (.lmul, 1) := by decide +kernel
theorem dX11_next_206 : decode cX11_next 206 = .ok (.aload_n 0, 1) := by decide +kernel
theorem dX11_next_207 : decode cX11_next 207 = .ok (.getfield 59, 3) := by decide +kernel
theorem dX11_next_210 : decode cX11_next 210 = .ok (.aload_n 0, 1) := by decide +kernel
theorem dX11_next_211 : decode cX11_next 211 = .ok (.getfield 179, 3) := by decide +kernel
theorem dX11_next_214 : decode cX11_next 214 = .ok (.iaload, 1) := by decide +kernel
theorem dX11_next_215 : decode cX11_next 215 = .ok (.i2l, 1) := by decide +kernel
theorem dX11_next_216 : decode cX11_next 216 = .ok (.ladd, 1) := by decide +kernel
theorem dX11_next_217 : decode cX11_next 217 = .ok (.ldc2_w 200, 3) := by decide +kernel
theorem dX11_next_220 : decode cX11_next 220 = .ok (.lsub, 1) := by decide +kernel
theorem dX11_next_221 : decode cX11_next 221 = .ok (.goto 6, 3) := by decide +kernel
theorem dX11_next_224 : decode cX11_next 224 = .ok (.ldc2_w 147, 3) := by decide +kernel
theorem dX11_next_227 : decode cX11_next 227 = .ok (.putfield 185, 3) := by decide +kernel
theorem dX11_next_230 : decode cX11_next 230 = .ok (.aload_n 0, 1) := by decide +kernel
theorem dX11_next_231 : decode cX11_next 231 = .ok (.dup, 1) := by decide +kernel
theorem dX11_next_232 : decode cX11_next 232 = .ok (.getfield 179, 3) := by decide +kernel
theorem dX11_next_235 : decode cX11_next 235 = .ok (.iconst 1, 1) := by decide +kernel
theorem dX11_next_236 : decode cX11_next 236 = .ok (.iadd, 1) := by decide +kernel
theorem dX11_next_237 : decode cX11_next 237 = .ok (.putfield 179, 3) := by decide +kernel
theorem dX11_next_240 : decode cX11_next 240 = .ok (.goto (-91), 3) := by decide +kernel
theorem dX11_next_243 : decode cX11_next 243 = .ok (.aload_n 0, 1) := by decide +kernel
theorem dX11_next_244 : decode cX11_next 244 = .ok (.getfield 195, 3) := by decide +kernel
theorem dX11_next_247 : decode cX11_next 247 = .ok (.iconst 2, 1) := by decide +kernel
theorem dX11_next_248 : decode cX11_next 248 = .ok (.if_icmp .ne 87, 3) := by decide +kernel
theorem dX11_next_251 : decode cX11_next 251 = .ok (.aload_n 0, 1) := by decide +kernel
theorem dX11_next_252 : decode cX11_next 252 = .ok (.getfield 179, 3) := by decide +kernel
theorem dX11_next_255 : decode cX11_next 255 = .ok (.aload_n 0, 1) := by decide +kernel
theorem dX11_next_256 : decode cX11_next 256 = .ok (.getfield 173, 3) := by decide +kernel
theorem dX11_next_259 : decode cX11_next 259 = .ok (.if_icmp .ge 76, 3) := by decide +kernel
theorem dX11_next_262 : decode cX11_next 262 = .ok (.aload_n 0, 1) := by decide +kernel
theorem dX11_next_263 : decode cX11_next 263 = .ok (.getfield 59, 3) := by decide +kernel
theorem dX11_next_266 : decode cX11_next 266 = .ok (.aload_n 0, 1) := by decide +kernel
theorem dX11_next_267 : decode cX11_next 267 = .ok (.getfield 179, 3) := by decide +kernel
theorem dX11_next_270 : decode cX11_next 270 = .ok (.iaload, 1) := by decide +kernel
theorem dX11_next_271 : decode cX11_next 271 = .ok (.invokestatic 192, 3) := by decide +kernel
theorem dX11_next_274 : decode cX11_next 274 = .ok (.ifCond .eq 61, 3) := by decide +kernel
theorem dX11_next_277 : decode cX11_next 277 = .ok (.aload_n 0, 1) := by decide +kernel
theorem dX11_next_278 : decode cX11_next 278 = .ok (.aload_n 0, 1) := by decide +kernel
theorem dX11_next_279 : decode cX11_next 279 = .ok (.getfield 185, 3) := by decide +kernel
theorem dX11_next_282 : decode cX11_next 282 = .ok (.ldc2_w 202, 3) := by decide +kernel
theorem dX11_next_285 : decode cX11_next 285 = .ok (.lcmp, 1) := by decide +kernel
theorem dX11_next_286 : decode cX11_next 286 = .ok (.ifCond .le 10, 3) := by decide +kernel
theorem dX11_next_289 : decode cX11_next 289 = .ok (.aload_n 0, 1) := by decide +kernel
theorem dX11_next_290 : decode cX11_next 290 = .ok (.getfield 185, 3) := by decide +kernel
theorem dX11_next_293 : decode cX11_next 293 = .ok (.goto 26, 3) := by decide +kernel
theorem dX11_next_296 : decode cX11_next 296 = .ok (.aload_n 0, 1) := by decide +kernel
theorem dX11_next_297 : decode cX11_next 297 = .ok (.getfield 185, 3) := by decide +kernel
theorem dX11_next_300 : decode cX11_next 300 = .ok (.ldc2_w 204, 3) := by decide +kernel
theorem dX11_next_303 : decode cX11_next 303 = .ok (.lmul, 1) := by decide +kernel
theorem dX11_next_304 : decode cX11_next 304 = .ok (.aload_n 0, 1) := by decide +kernel
theorem dX11_next_305 : decode cX11_next 305 = .ok (.getfield 59, 3) := by decide +kernel
theorem dX11_next_308 : decode cX11_next 308 = .ok (.aload_n 0, 1) := by decide +kernel
theorem dX11_next_309 : decode cX11_next 309 = .ok (.getfield 179, 3) := by decide +kernel
theorem dX11_next_312 : decode cX11_next 312 = .ok (.iaload, 1) := by decide +kernel
theorem dX11_next_313 : decode cX11_next 313 = .ok (.i2l, 1) := by decide +kernel
theorem dX11_next_314 : decode cX11_next 314 = .ok (.ladd, 1) := by decide +kernel
theorem dX11_next_315 : decode cX11_next 315 = .ok (.ldc2_w 206, 3) := by decide +kernel
theorem dX11_next_318 : decode cX11_next 318 = .ok (.lsub, 1) := by decide +kernel
theorem dX11_next_319 : decode cX11_next 319 = .ok (.putfield 185, 3) := by decide +kernel
theorem dX11_next_322 : decode cX11_next 322 = .ok (.aload_n 0, 1) := by decide +kernel
theorem dX11_next_323 : decode cX11_next 323 = .ok (.dup, 1) := by decide +kernel
theorem dX11_next_324 : decode cX11_next 324 = .ok (.getfield 179, 3) := by decide +kernel
theorem dX11_next_327 : decode cX11_next 327 = .ok (.iconst 1, 1) := by decide +kernel
theorem dX11_next_328 : decode cX11_next 328 = .ok (.iadd, 1) := by decide +kernel
theorem dX11_next_329 : decode cX11_next 329 = .ok (.putfield 179, 3) := by decide +kernel
theorem dX11_next_332 : decode cX11_next 332 = .ok (.goto (-89), 3) := by decide +kernel
theorem dX11_next_335 : decode cX11_next 335 = .ok (.return_, 1) := by decide +kernel
theorem dX11_isWord_0 : decode cX11_isWord 0 = .ok (.iload_n 1, 1) := by decide +kernel
theorem dX11_isWord_1 : decode cX11_isWord 1 = .ok (.i2l, 1) := by decide +kernel
theorem dX11_isWord_2 : decode cX11_isWord 2 = .ok (.ldc2_w 200, 3) := by decide +kernel
theorem dX11_isWord_5 : decode cX11_isWord 5 = .ok (.lsub, 1) := by decide +kernel
theorem dX11_isWord_6 : decode cX11_isWord 6 = .ok (.ldc2_w 198, 3) := by decide +kernel
theorem dX11_isWord_9 : decode cX11_isWord 9 = .ok (.lmul, 1) := by decide +kernel
theorem dX11_isWord_10 : decode cX11_isWord 10 = .ok (.iload_n 2, 1) := by decide +kernel
theorem dX11_isWord_11 : decode cX11_isWord 11 = .ok (.i2l, 1) := by decide +kernel
theorem dX11_isWord_12 : decode cX11_isWord 12 = .ok (.ladd, 1) := by decide +kernel
theorem dX11_isWord_13 : decode cX11_isWord 13 = .ok (.ldc2_w 200, 3) := by decide +kernel
theorem dX11_isWord_16 : decode cX11_isWord 16 = .ok (.lsub, 1) := by decide +kernel
theorem dX11_isWord_17 : decode cX11_isWord 17 = .ok (.lstore 6, 2) := by decide +kernel
theorem dX11_isWord_19 : decode cX11_isWord 19 = .ok (.iload_n 3, 1) := by decide +kernel
theorem dX11_isWord_20 : decode cX11_isWord 20 = .ok (.ifCond .ne 8, 3) := by decide +kernel
theorem dX11_isWord_23 : decode cX11_isWord 23 = .ok (.lload 6, 2) := by decide +kernel
theorem dX11_isWord_25 : decode cX11_isWord 25 = .ok (.goto 16, 3) := by decide +kernel
theorem dX11_isWord_28 : decode cX11_isWord 28 = .ok (.lload 6, 2) := by decide +kernel
theorem dX11_isWord_30 : decode cX11_isWord 30 = .ok (.ldc2_w 198, 3) := by decide +kernel
theorem dX11_isWord_33 : decode cX11_isWord 33 = .ok (.lmul, 1) := by decide +kernel
theorem dX11_isWord_34 : decode cX11_isWord 34 = .ok (.iload_n 3, 1) := by decide +kernel
theorem dX11_isWord_35 : decode cX11_isWord 35 = .ok (.i2l, 1) := by decide +kernel
theorem dX11_isWord_36 : decode cX11_isWord 36 = .ok (.ladd, 1) := by decide +kernel
theorem dX11_isWord_37 : decode cX11_isWord 37 = .ok (.ldc2_w 200, 3) := by decide +kernel
theorem dX11_isWord_40 : decode cX11_isWord 40 = .ok (.lsub, 1) := by decide +kernel
theorem dX11_isWord_41 : decode cX11_isWord 41 = .ok (.lstore 6, 2) := by decide +kernel
theorem dX11_isWord_43 : decode cX11_isWord 43 = .ok (.iload 4, 2) := by decide +kernel
theorem dX11_isWord_45 : decode cX11_isWord 45 = .ok (.ifCond .ne 8, 3) := by decide +kernel
theorem dX11_isWord_48 : decode cX11_isWord 48 = .ok (.lload 6, 2) := by decide +kernel
theorem dX11_isWord_50 : decode cX11_isWord 50 = .ok (.goto 17, 3) := by decide +kernel
theorem dX11_isWord_53 : decode cX11_isWord 53 = .ok (.lload 6, 2) := by decide +kernel
theorem dX11_isWord_55 : decode cX11_isWord 55 = .ok (.ldc2_w 198, 3) := by decide +kernel
theorem dX11_isWord_58 : decode cX11_isWord 58 = .ok (.lmul, 1) := by decide +kernel
theorem dX11_isWord_59 : decode cX11_isWord 59 = .ok (.iload 4, 2) := by decide +kernel
theorem dX11_isWord_61 : decode cX11_isWord 61 = .ok (.i2l, 1) := by decide +kernel
theorem dX11_isWord_62 : decode cX11_isWord 62 = .ok (.ladd, 1) := by decide +kernel
theorem dX11_isWord_63 : decode cX11_isWord 63 = .ok (.ldc2_w 200, 3) := by decide +kernel
theorem dX11_isWord_66 : decode cX11_isWord 66 = .ok (.lsub, 1) := by decide +kernel
theorem dX11_isWord_67 : decode cX11_isWord 67 = .ok (.lstore 6, 2) := by decide +kernel
theorem dX11_isWord_69 : decode cX11_isWord 69 = .ok (.iload 5, 2) := by decide +kernel
theorem dX11_isWord_71 : decode cX11_isWord 71 = .ok (.ifCond .ne 8, 3) := by decide +kernel
theorem dX11_isWord_74 : decode cX11_isWord 74 = .ok (.lload 6, 2) := by decide +kernel
theorem dX11_isWord_76 : decode cX11_isWord 76 = .ok (.goto 17, 3) := by decide +kernel
theorem dX11_isWord_79 : decode cX11_isWord 79 = .ok (.lload 6, 2) := by decide +kernel
theorem dX11_isWord_81 : decode cX11_isWord 81 = .ok (.ldc2_w 198, 3) := by decide +kernel
theorem dX11_isWord_84 : decode cX11_isWord 84 = .ok (.lmul, 1) := by decide +kernel
theorem dX11_isWord_85 : decode cX11_isWord 85 = .ok (.iload 5, 2) := by decide +kernel
theorem dX11_isWord_87 : decode cX11_isWord 87 = .ok (.i2l, 1) := by decide +kernel
theorem dX11_isWord_88 : decode cX11_isWord 88 = .ok (.ladd, 1) := by decide +kernel
theorem dX11_isWord_89 : decode cX11_isWord 89 = .ok (.ldc2_w 200, 3) := by decide +kernel
theorem dX11_isWord_92 : decode cX11_isWord 92 = .ok (.lsub, 1) := by decide +kernel
theorem dX11_isWord_93 : decode cX11_isWord 93 = .ok (.lstore 6, 2) := by decide +kernel
theorem dX11_isWord_95 : decode cX11_isWord 95 = .ok (.aload_n 0, 1) := by decide +kernel
theorem dX11_isWord_96 : decode cX11_isWord 96 = .ok (.getfield 195, 3) := by decide +kernel
theorem dX11_isWord_99 : decode cX11_isWord 99 = .ok (.iconst 1, 1) := by decide +kernel
theorem dX11_isWord_100 : decode cX11_isWord 100 = .ok (.if_icmp .ne 17, 3) := by decide +kernel
theorem dX11_isWord_103 : decode cX11_isWord 103 = .ok (.aload_n 0, 1) := by decide +kernel
theorem dX11_isWord_104 : decode cX11_isWord 104 = .ok (.getfield 185, 3) := by decide +kernel
theorem dX11_isWord_107 : decode cX11_isWord 107 = .ok (.lload 6, 2) := by decide +kernel
theorem dX11_isWord_109 : decode cX11_isWord 109 = .ok (.lcmp, 1) := by decide +kernel
theorem dX11_isWord_110 : decode cX11_isWord 110 = .ok (.ifCond .ne 7, 3) := by decide +kernel
theorem dX11_isWord_113 : decode cX11_isWord 113 = .ok (.iconst 1, 1) := by decide +kernel
theorem dX11_isWord_114 : decode cX11_isWord 114 = .ok (.goto 4, 3) := by decide +kernel
theorem dX11_isWord_117 : decode cX11_isWord 117 = .ok (.iconst 0, 1) := by decide +kernel
theorem dX11_isWord_118 : decode cX11_isWord 118 = .ok (.ireturn, 1) := by decide +kernel
theorem dX11_must_0 : decode cX11_must 0 = .ok (.aload_n 0, 1) := by decide +kernel
theorem dX11_must_1 : decode cX11_must 1 = .ok (.getfield 208, 3) := by decide +kernel
theorem dX11_must_4 : decode cX11_must 4 = .ok (.ifCond .ne 20, 3) := by decide +kernel
theorem dX11_must_7 : decode cX11_must 7 = .ok (.iload_n 1, 1) := by decide +kernel
theorem dX11_must_8 : decode cX11_must 8 = .ok (.ifCond .ne 16, 3) := by decide +kernel
theorem dX11_must_11 : decode cX11_must 11 = .ok (.aload_n 0, 1) := by decide +kernel
theorem dX11_must_12 : decode cX11_must 12 = .ok (.iconst 1, 1) := by decide +kernel
theorem dX11_must_13 : decode cX11_must 13 = .ok (.putfield 208, 3) := by decide +kernel
theorem dX11_must_16 : decode cX11_must 16 = .ok (.aload_n 0, 1) := by decide +kernel
theorem dX11_must_17 : decode cX11_must 17 = .ok (.aload_n 0, 1) := by decide +kernel
theorem dX11_must_18 : decode cX11_must 18 = .ok (.getfield 182, 3) := by decide +kernel
theorem dX11_must_21 : decode cX11_must 21 = .ok (.putfield 62, 3) := by decide +kernel
theorem dX11_must_24 : decode cX11_must 24 = .ok (.aload_n 0, 1) := by decide +kernel
theorem dX11_must_25 : decode cX11_must 25 = .ok (.getfield 208, 3) := by decide +kernel
theorem dX11_must_28 : decode cX11_must 28 = .ok (.ifCond .ne 7, 3) := by decide +kernel
theorem dX11_must_31 : decode cX11_must 31 = .ok (.aload_n 0, 1) := by decide +kernel
theorem dX11_must_32 : decode cX11_must 32 = .ok (.invokevirtual 212, 3) := by decide +kernel
theorem dX11_must_35 : decode cX11_must 35 = .ok (.return_, 1) := by decide +kernel
theorem dX11_number_0 : decode cX11_number 0 = .ok (.aload_n 0, 1) := by decide +kernel
theorem dX11_number_1 : decode cX11_number 1 = .ok (.getfield 185, 3) := by decide +kernel
theorem dX11_number_4 : decode cX11_number 4 = .ok (.l2i, 1) := by decide +kernel
theorem dX11_number_5 : decode cX11_number 5 = .ok (.istore 5, 2) := by decide +kernel
theorem dX11_number_7 : decode cX11_number 7 = .ok (.aload_n 0, 1) := by decide +kernel
theorem dX11_number_8 : decode cX11_number 8 = .ok (.aload_n 0, 1) := by decide +kernel
theorem dX11_number_9 : decode cX11_number 9 = .ok (.getfield 195, 3) := by decide +kernel
theorem dX11_number_12 : decode cX11_number 12 = .ok (.iconst 2, 1) := by decide +kernel
theorem dX11_number_13 : decode cX11_number 13 = .ok (.if_icmp .ne 19, 3) := by decide +kernel
theorem dX11_number_16 : decode cX11_number 16 = .ok (.aload_n 0, 1) := by decide +kernel
theorem dX11_number_17 : decode cX11_number 17 = .ok (.getfield 185, 3) := by decide +kernel
theorem dX11_number_20 : decode cX11_number 20 = .ok (.lload_n 1, 1) := by decide +kernel
theorem dX11_number_21 : decode cX11_number 21 = .ok (.lload_n 3, 1) := by decide +kernel
theorem dX11_number_22 : decode cX11_number 22 = .ok (.invokestatic 110, 3) := by decide +kernel
theorem dX11_number_25 : decode cX11_number 25 = .ok (.ifCond .eq 7, 3) := by decide +kernel
theorem dX11_number_28 : decode cX11_number 28 = .ok (.iconst 1, 1) := by decide +kernel
theorem dX11_number_29 : decode cX11_number 29 = .ok (.goto 4, 3) := by decide +kernel
theorem dX11_number_32 : decode cX11_number 32 = .ok (.iconst 0, 1) := by decide +kernel
theorem dX11_number_33 : decode cX11_number 33 = .ok (.invokevirtual 215, 3) := by decide +kernel
theorem dX11_number_36 : decode cX11_number 36 = .ok (.iload 5, 2) := by decide +kernel
theorem dX11_number_38 : decode cX11_number 38 = .ok (.ireturn, 1) := by decide +kernel
theorem dX11_readTithe_0 : decode cX11_readTithe 0 = .ok (.aload_n 0, 1) := by decide +kernel
theorem dX11_readTithe_1 : decode cX11_readTithe 1 = .ok (.bipush 112, 2) := by decide +kernel
theorem dX11_readTithe_3 : decode cX11_readTithe 3 = .ok (.bipush 97, 2) := by decide +kernel
theorem dX11_readTithe_5 : decode cX11_readTithe 5 = .ok (.bipush 114, 2) := by decide +kernel
theorem dX11_readTithe_7 : decode cX11_readTithe 7 = .ok (.bipush 116, 2) := by decide +kernel
theorem dX11_readTithe_9 : decode cX11_readTithe 9 = .ok (.iconst 0, 1) := by decide +kernel
theorem dX11_readTithe_10 : decode cX11_readTithe 10 = .ok (.invokevirtual 219, 3) := by decide +kernel
theorem dX11_readTithe_13 : decode cX11_readTithe 13 = .ok (.ifCond .eq 7, 3) := by decide +kernel
theorem dX11_readTithe_16 : decode cX11_readTithe 16 = .ok (.iconst 0, 1) := by decide +kernel
theorem dX11_readTithe_17 : decode cX11_readTithe 17 = .ok (.goto 65, 3) := by decide +kernel
theorem dX11_readTithe_20 : decode cX11_readTithe 20 = .ok (.aload_n 0, 1) := by decide +kernel
theorem dX11_readTithe_21 : decode cX11_readTithe 21 = .ok (.bipush 118, 2) := by decide +kernel
theorem dX11_readTithe_23 : decode cX11_readTithe 23 = .ok (.bipush 105, 2) := by decide +kernel
theorem dX11_readTithe_25 : decode cX11_readTithe 25 = .ok (.bipush 110, 2) := by decide +kernel
theorem dX11_readTithe_27 : decode cX11_readTithe 27 = .ok (.bipush 101, 2) := by decide +kernel
theorem dX11_readTithe_29 : decode cX11_readTithe 29 = .ok (.bipush 115, 2) := by decide +kernel
theorem dX11_readTithe_31 : decode cX11_readTithe 31 = .ok (.invokevirtual 219, 3) := by decide +kernel
theorem dX11_readTithe_34 : decode cX11_readTithe 34 = .ok (.ifCond .eq 7, 3) := by decide +kernel
theorem dX11_readTithe_37 : decode cX11_readTithe 37 = .ok (.iconst 1, 1) := by decide +kernel
theorem dX11_readTithe_38 : decode cX11_readTithe 38 = .ok (.goto 44, 3) := by decide +kernel
theorem dX11_readTithe_41 : decode cX11_readTithe 41 = .ok (.aload_n 0, 1) := by decide +kernel
theorem dX11_readTithe_42 : decode cX11_readTithe 42 = .ok (.bipush 102, 2) := by decide +kernel
theorem dX11_readTithe_44 : decode cX11_readTithe 44 = .ok (.bipush 114, 2) := by decide +kernel
theorem dX11_readTithe_46 : decode cX11_readTithe 46 = .ok (.bipush 101, 2) := by decide +kernel
theorem dX11_readTithe_48 : decode cX11_readTithe 48 = .ok (.bipush 101, 2) := by decide +kernel
theorem dX11_readTithe_50 : decode cX11_readTithe 50 = .ok (.iconst 0, 1) := by decide +kernel
theorem dX11_readTithe_51 : decode cX11_readTithe 51 = .ok (.invokevirtual 219, 3) := by decide +kernel
theorem dX11_readTithe_54 : decode cX11_readTithe 54 = .ok (.ifCond .eq 7, 3) := by decide +kernel
theorem dX11_readTithe_57 : decode cX11_readTithe 57 = .ok (.iconst 2, 1) := by decide +kernel
theorem dX11_readTithe_58 : decode cX11_readTithe 58 = .ok (.goto 24, 3) := by decide +kernel
theorem dX11_readTithe_61 : decode cX11_readTithe 61 = .ok (.aload_n 0, 1) := by decide +kernel
theorem dX11_readTithe_62 : decode cX11_readTithe 62 = .ok (.bipush 109, 2) := by decide +kernel
theorem dX11_readTithe_64 : decode cX11_readTithe 64 = .ok (.bipush 111, 2) := by decide +kernel
theorem dX11_readTithe_66 : decode cX11_readTithe 66 = .ok (.bipush 115, 2) := by decide +kernel
theorem dX11_readTithe_68 : decode cX11_readTithe 68 = .ok (.bipush 116, 2) := by decide +kernel
theorem dX11_readTithe_70 : decode cX11_readTithe 70 = .ok (.iconst 0, 1) := by decide +kernel
theorem dX11_readTithe_71 : decode cX11_readTithe 71 = .ok (.invokevirtual 219, 3) := by decide +kernel
theorem dX11_readTithe_74 : decode cX11_readTithe 74 = .ok (.ifCond .eq 7, 3) := by decide +kernel
theorem dX11_readTithe_77 : decode cX11_readTithe 77 = .ok (.iconst 3, 1) := by decide +kernel
theorem dX11_readTithe_78 : decode cX11_readTithe 78 = .ok (.goto 4, 3) := by decide +kernel
theorem dX11_readTithe_81 : decode cX11_readTithe 81 = .ok (.iconst (-1), 1) := by decide +kernel
theorem dX11_readTithe_82 : decode cX11_readTithe 82 = .ok (.istore_n 1, 1) := by decide +kernel
theorem dX11_readTithe_83 : decode cX11_readTithe 83 = .ok (.aload_n 0, 1) := by decide +kernel
theorem dX11_readTithe_84 : decode cX11_readTithe 84 = .ok (.iload_n 1, 1) := by decide +kernel
theorem dX11_readTithe_85 : decode cX11_readTithe 85 = .ok (.ifCond .lt 16, 3) := by decide +kernel
theorem dX11_readTithe_88 : decode cX11_readTithe 88 = .ok (.aload_n 0, 1) := by decide +kernel
theorem dX11_readTithe_89 : decode cX11_readTithe 89 = .ok (.getfield 223, 3) := by decide +kernel
theorem dX11_readTithe_92 : decode cX11_readTithe 92 = .ok (.bipush 20, 2) := by decide +kernel
theorem dX11_readTithe_94 : decode cX11_readTithe 94 = .ok (.if_icmp .ge 7, 3) := by decide +kernel
theorem dX11_readTithe_97 : decode cX11_readTithe 97 = .ok (.iconst 1, 1) := by decide +kernel
theorem dX11_readTithe_98 : decode cX11_readTithe 98 = .ok (.goto 4, 3) := by decide +kernel
theorem dX11_readTithe_101 : decode cX11_readTithe 101 = .ok (.iconst 0, 1) := by decide +kernel
theorem dX11_readTithe_102 : decode cX11_readTithe 102 = .ok (.invokevirtual 215, 3) := by decide +kernel
theorem dX11_readTithe_105 : decode cX11_readTithe 105 = .ok (.aload_n 0, 1) := by decide +kernel
theorem dX11_readTithe_106 : decode cX11_readTithe 106 = .ok (.iload_n 1, 1) := by decide +kernel
theorem dX11_readTithe_107 : decode cX11_readTithe 107 = .ok (.iconst 1, 1) := by decide +kernel
theorem dX11_readTithe_108 : decode cX11_readTithe 108 = .ok (.if_icmp .ne 7, 3) := by decide +kernel
theorem dX11_readTithe_111 : decode cX11_readTithe 111 = .ok (.lconst 1, 1) := by decide +kernel
theorem dX11_readTithe_112 : decode cX11_readTithe 112 = .ok (.goto 4, 3) := by decide +kernel
theorem dX11_readTithe_115 : decode cX11_readTithe 115 = .ok (.lconst 0, 1) := by decide +kernel
theorem dX11_readTithe_116 : decode cX11_readTithe 116 = .ok (.ldc2_w 202, 3) := by decide +kernel
theorem dX11_readTithe_119 : decode cX11_readTithe 119 = .ok (.invokevirtual 226, 3) := by decide +kernel
theorem dX11_readTithe_122 : decode cX11_readTithe 122 = .ok (.istore_n 2, 1) := by decide +kernel
theorem dX11_readTithe_123 : decode cX11_readTithe 123 = .ok (.iconst 0, 1) := by decide +kernel
theorem dX11_readTithe_124 : decode cX11_readTithe 124 = .ok (.istore_n 3, 1) := by decide +kernel
theorem dX11_readTithe_125 : decode cX11_readTithe 125 = .ok (.iconst 0, 1) := by decide +kernel
theorem dX11_readTithe_126 : decode cX11_readTithe 126 = .ok (.istore 4, 2) := by decide +kernel
theorem dX11_readTithe_128 : decode cX11_readTithe 128 = .ok (.iload_n 1, 1) := by decide +kernel
theorem dX11_readTithe_129 : decode cX11_readTithe 129 = .ok (.ifCond .ne 40, 3) := by decide +kernel
theorem dX11_readTithe_132 : decode cX11_readTithe 132 = .ok (.aload_n 0, 1) := by decide +kernel
theorem dX11_readTithe_133 : decode cX11_readTithe 133 = .ok (.aload_n 0, 1) := by decide +kernel
theorem dX11_readTithe_134 : decode cX11_readTithe 134 = .ok (.bipush 111, 2) := by decide +kernel
theorem dX11_readTithe_136 : decode cX11_readTithe 136 = .ok (.bipush 102, 2) := by decide +kernel
theorem dX11_readTithe_138 : decode cX11_readTithe 138 = .ok (.iconst 0, 1) := by decide +kernel
theorem dX11_readTithe_139 : decode cX11_readTithe 139 = .ok (.iconst 0, 1) := by decide +kernel
theorem dX11_readTithe_140 : decode cX11_readTithe 140 = .ok (.iconst 0, 1) := by decide +kernel
theorem dX11_readTithe_141 : decode cX11_readTithe 141 = .ok (.invokevirtual 219, 3) := by decide +kernel
theorem dX11_readTithe_144 : decode cX11_readTithe 144 = .ok (.invokevirtual 215, 3) := by decide +kernel
theorem dX11_readTithe_147 : decode cX11_readTithe 147 = .ok (.aload_n 0, 1) := by decide +kernel
theorem dX11_readTithe_148 : decode cX11_readTithe 148 = .ok (.iload_n 2, 1) := by decide +kernel
theorem dX11_readTithe_149 : decode cX11_readTithe 149 = .ok (.iconst 1, 1) := by decide +kernel
theorem dX11_readTithe_150 : decode cX11_readTithe 150 = .ok (.if_icmp .ge 7, 3) := by decide +kernel
theorem dX11_readTithe_153 : decode cX11_readTithe 153 = .ok (.lconst 1, 1) := by decide +kernel
theorem dX11_readTithe_154 : decode cX11_readTithe 154 = .ok (.goto 5, 3) := by decide +kernel
theorem dX11_readTithe_157 : decode cX11_readTithe 157 = .ok (.iload_n 2, 1) := by decide +kernel
theorem dX11_readTithe_158 : decode cX11_readTithe 158 = .ok (.i2l, 1) := by decide +kernel
theorem dX11_readTithe_159 : decode cX11_readTithe 159 = .ok (.ldc2_w 202, 3) := by decide +kernel
theorem dX11_readTithe_162 : decode cX11_readTithe 162 = .ok (.invokevirtual 226, 3) := by decide +kernel
theorem dX11_readTithe_165 : decode cX11_readTithe 165 = .ok (.istore_n 3, 1) := by decide +kernel
theorem dX11_readTithe_166 : decode cX11_readTithe 166 = .ok (.goto 71, 3) := by decide +kernel
theorem dX11_readTithe_169 : decode cX11_readTithe 169 = .ok (.iload_n 1, 1) := by decide +kernel
theorem dX11_readTithe_170 : decode cX11_readTithe 170 = .ok (.iconst 1, 1) := by decide +kernel
theorem dX11_readTithe_171 : decode cX11_readTithe 171 = .ok (.if_icmp .ne 66, 3) := by decide +kernel
theorem dX11_readTithe_174 : decode cX11_readTithe 174 = .ok (.aload_n 0, 1) := by decide +kernel
theorem dX11_readTithe_175 : decode cX11_readTithe 175 = .ok (.aload_n 0, 1) := by decide +kernel
theorem dX11_readTithe_176 : decode cX11_readTithe 176 = .ok (.bipush 101, 2) := by decide +kernel
theorem dX11_readTithe_178 : decode cX11_readTithe 178 = .ok (.bipush 97, 2) := by decide +kernel
theorem dX11_readTithe_180 : decode cX11_readTithe 180 = .ok (.bipush 99, 2) := by decide +kernel
theorem dX11_readTithe_182 : decode cX11_readTithe 182 = .ok (.bipush 104, 2) := by decide +kernel
theorem dX11_readTithe_184 : decode cX11_readTithe 184 = .ok (.iconst 0, 1) := by decide +kernel
theorem dX11_readTithe_185 : decode cX11_readTithe 185 = .ok (.invokevirtual 219, 3) := by decide +kernel
theorem dX11_readTithe_188 : decode cX11_readTithe 188 = .ok (.invokevirtual 215, 3) := by decide +kernel
theorem dX11_readTithe_191 : decode cX11_readTithe 191 = .ok (.aload_n 0, 1) := by decide +kernel
theorem dX11_readTithe_192 : decode cX11_readTithe 192 = .ok (.lconst 0, 1) := by decide +kernel
theorem dX11_readTithe_193 : decode cX11_readTithe 193 = .ok (.ldc2_w 202, 3) := by decide +kernel
theorem dX11_readTithe_196 : decode cX11_readTithe 196 = .ok (.invokevirtual 226, 3) := by decide +kernel
theorem dX11_readTithe_199 : decode cX11_readTithe 199 = .ok (.istore_n 3, 1) := by decide +kernel
theorem dX11_readTithe_200 : decode cX11_readTithe 200 = .ok (.aload_n 0, 1) := by decide +kernel
theorem dX11_readTithe_201 : decode cX11_readTithe 201 = .ok (.getfield 208, 3) := by decide +kernel
theorem dX11_readTithe_204 : decode cX11_readTithe 204 = .ok (.ifCond .ne 33, 3) := by decide +kernel
theorem dX11_readTithe_207 : decode cX11_readTithe 207 = .ok (.aload_n 0, 1) := by decide +kernel
theorem dX11_readTithe_208 : decode cX11_readTithe 208 = .ok (.bipush 102, 2) := by decide +kernel
theorem dX11_readTithe_210 : decode cX11_readTithe 210 = .ok (.bipush 114, 2) := by decide +kernel
theorem dX11_readTithe_212 : decode cX11_readTithe 212 = .ok (.bipush 111, 2) := by decide +kernel
theorem dX11_readTithe_214 : decode cX11_readTithe 214 = .ok (.bipush 109, 2) := by decide +kernel
theorem dX11_readTithe_216 : decode cX11_readTithe 216 = .ok (.iconst 0, 1) := by decide +kernel
theorem dX11_readTithe_217 : decode cX11_readTithe 217 = .ok (.invokevirtual 219, 3) := by decide +kernel
theorem dX11_readTithe_220 : decode cX11_readTithe 220 = .ok (.ifCond .eq 17, 3) := by decide +kernel
theorem dX11_readTithe_223 : decode cX11_readTithe 223 = .ok (.aload_n 0, 1) := by decide +kernel
theorem dX11_readTithe_224 : decode cX11_readTithe 224 = .ok (.invokevirtual 212, 3) := by decide +kernel
theorem dX11_readTithe_227 : decode cX11_readTithe 227 = .ok (.aload_n 0, 1) := by decide +kernel
theorem dX11_readTithe_228 : decode cX11_readTithe 228 = .ok (.lconst 0, 1) := by decide +kernel
theorem dX11_readTithe_229 : decode cX11_readTithe 229 = .ok (.ldc2_w 116, 3) := by decide +kernel
theorem dX11_readTithe_232 : decode cX11_readTithe 232 = .ok (.invokevirtual 226, 3) := by decide +kernel
theorem dX11_readTithe_235 : decode cX11_readTithe 235 = .ok (.istore 4, 2) := by decide +kernel
theorem dX11_readTithe_237 : decode cX11_readTithe 237 = .ok (.aload_n 0, 1) := by decide +kernel
theorem dX11_readTithe_238 : decode cX11_readTithe 238 = .ok (.getfield 208, 3) := by decide +kernel
theorem dX11_readTithe_241 : decode cX11_readTithe 241 = .ok (.ifCond .eq 4, 3) := by decide +kernel
theorem dX11_readTithe_244 : decode cX11_readTithe 244 = .ok (.return_, 1) := by decide +kernel
theorem dX11_readTithe_245 : decode cX11_readTithe 245 = .ok (.aload_n 0, 1) := by decide +kernel
theorem dX11_readTithe_246 : decode cX11_readTithe 246 = .ok (.getfield 56, 3) := by decide +kernel
theorem dX11_readTithe_249 : decode cX11_readTithe 249 = .ok (.iconst 4, 1) := by decide +kernel
theorem dX11_readTithe_250 : decode cX11_readTithe 250 = .ok (.aload_n 0, 1) := by decide +kernel
theorem dX11_readTithe_251 : decode cX11_readTithe 251 = .ok (.getfield 223, 3) := by decide +kernel
theorem dX11_readTithe_254 : decode cX11_readTithe 254 = .ok (.imul, 1) := by decide +kernel
theorem dX11_readTithe_255 : decode cX11_readTithe 255 = .ok (.iload_n 1, 1) := by decide +kernel
theorem dX11_readTithe_256 : decode cX11_readTithe 256 = .ok (.iastore, 1) := by decide +kernel
theorem dX11_readTithe_257 : decode cX11_readTithe 257 = .ok (.aload_n 0, 1) := by decide +kernel
theorem dX11_readTithe_258 : decode cX11_readTithe 258 = .ok (.getfield 56, 3) := by decide +kernel
theorem dX11_readTithe_261 : decode cX11_readTithe 261 = .ok (.iconst 4, 1) := by decide +kernel
theorem dX11_readTithe_262 : decode cX11_readTithe 262 = .ok (.aload_n 0, 1) := by decide +kernel
theorem dX11_readTithe_263 : decode cX11_readTithe 263 = .ok (.getfield 223, 3) := by decide +kernel
theorem dX11_readTithe_266 : decode cX11_readTithe 266 = .ok (.imul, 1) := by decide +kernel
theorem dX11_readTithe_267 : decode cX11_readTithe 267 = .ok (.iconst 1, 1) := by decide +kernel
theorem dX11_readTithe_268 : decode cX11_readTithe 268 = .ok (.iadd, 1) := by decide +kernel
theorem dX11_readTithe_269 : decode cX11_readTithe 269 = .ok (.iload_n 2, 1) := by decide +kernel
theorem dX11_readTithe_270 : decode cX11_readTithe 270 = .ok (.iastore, 1) := by decide +kernel
theorem dX11_readTithe_271 : decode cX11_readTithe 271 = .ok (.aload_n 0, 1) := by decide +kernel
theorem dX11_readTithe_272 : decode cX11_readTithe 272 = .ok (.getfield 56, 3) := by decide +kernel
theorem dX11_readTithe_275 : decode cX11_readTithe 275 = .ok (.iconst 4, 1) := by decide +kernel
theorem dX11_readTithe_276 : decode cX11_readTithe 276 = .ok (.aload_n 0, 1) := by decide +kernel
theorem dX11_readTithe_277 : decode cX11_readTithe 277 = .ok (.getfield 223, 3) := by decide +kernel
theorem dX11_readTithe_280 : decode cX11_readTithe 280 = .ok (.imul, 1) := by decide +kernel
theorem dX11_readTithe_281 : decode cX11_readTithe 281 = .ok (.iconst 2, 1) := by decide +kernel
theorem dX11_readTithe_282 : decode cX11_readTithe 282 = .ok (.iadd, 1) := by decide +kernel
theorem dX11_readTithe_283 : decode cX11_readTithe 283 = .ok (.iload_n 3, 1) := by decide +kernel
theorem dX11_readTithe_284 : decode cX11_readTithe 284 = .ok (.iastore, 1) := by decide +kernel
theorem dX11_readTithe_285 : decode cX11_readTithe 285 = .ok (.aload_n 0, 1) := by decide +kernel
theorem dX11_readTithe_286 : decode cX11_readTithe 286 = .ok (.getfield 56, 3) := by decide +kernel
theorem dX11_readTithe_289 : decode cX11_readTithe 289 = .ok (.iconst 4, 1) := by decide +kernel
theorem dX11_readTithe_290 : decode cX11_readTithe 290 = .ok (.aload_n 0, 1) := by decide +kernel
theorem dX11_readTithe_291 : decode cX11_readTithe 291 = .ok (.getfield 223, 3) := by decide +kernel
theorem dX11_readTithe_294 : decode cX11_readTithe 294 = .ok (.imul, 1) := by decide +kernel
theorem dX11_readTithe_295 : decode cX11_readTithe 295 = .ok (.iconst 3, 1) := by decide +kernel
theorem dX11_readTithe_296 : decode cX11_readTithe 296 = .ok (.iadd, 1) := by decide +kernel
theorem dX11_readTithe_297 : decode cX11_readTithe 297 = .ok (.iload 4, 2) := by decide +kernel
theorem dX11_readTithe_299 : decode cX11_readTithe 299 = .ok (.iastore, 1) := by decide +kernel
theorem dX11_readTithe_300 : decode cX11_readTithe 300 = .ok (.aload_n 0, 1) := by decide +kernel
theorem dX11_readTithe_301 : decode cX11_readTithe 301 = .ok (.dup, 1) := by decide +kernel
theorem dX11_readTithe_302 : decode cX11_readTithe 302 = .ok (.getfield 223, 3) := by decide +kernel
theorem dX11_readTithe_305 : decode cX11_readTithe 305 = .ok (.iconst 1, 1) := by decide +kernel
theorem dX11_readTithe_306 : decode cX11_readTithe 306 = .ok (.iadd, 1) := by decide +kernel
theorem dX11_readTithe_307 : decode cX11_readTithe 307 = .ok (.putfield 223, 3) := by decide +kernel
theorem dX11_readTithe_310 : decode cX11_readTithe 310 = .ok (.return_, 1) := by decide +kernel
theorem dX11_tithes_0 : decode cX11_tithes 0 = .ok (.aload_n 0, 1) := by decide +kernel
theorem dX11_tithes_1 : decode cX11_tithes 1 = .ok (.iconst 0, 1) := by decide +kernel
theorem dX11_tithes_2 : decode cX11_tithes 2 = .ok (.putfield 102, 3) := by decide +kernel
theorem dX11_tithes_5 : decode cX11_tithes 5 = .ok (.aload_n 0, 1) := by decide +kernel
theorem dX11_tithes_6 : decode cX11_tithes 6 = .ok (.iconst 0, 1) := by decide +kernel
theorem dX11_tithes_7 : decode cX11_tithes 7 = .ok (.putfield 179, 3) := by decide +kernel
theorem dX11_tithes_10 : decode cX11_tithes 10 = .ok (.aload_n 0, 1) := by decide +kernel
theorem dX11_tithes_11 : decode cX11_tithes 11 = .ok (.iconst 0, 1) := by decide +kernel
theorem dX11_tithes_12 : decode cX11_tithes 12 = .ok (.putfield 208, 3) := by decide +kernel
theorem dX11_tithes_15 : decode cX11_tithes 15 = .ok (.aload_n 0, 1) := by decide +kernel
theorem dX11_tithes_16 : decode cX11_tithes 16 = .ok (.iconst (-1), 1) := by decide +kernel
theorem dX11_tithes_17 : decode cX11_tithes 17 = .ok (.putfield 62, 3) := by decide +kernel
theorem dX11_tithes_20 : decode cX11_tithes 20 = .ok (.aload_n 0, 1) := by decide +kernel
theorem dX11_tithes_21 : decode cX11_tithes 21 = .ok (.iconst 0, 1) := by decide +kernel
theorem dX11_tithes_22 : decode cX11_tithes 22 = .ok (.putfield 223, 3) := by decide +kernel
theorem dX11_tithes_25 : decode cX11_tithes 25 = .ok (.aload_n 0, 1) := by decide +kernel
theorem dX11_tithes_26 : decode cX11_tithes 26 = .ok (.invokevirtual 212, 3) := by decide +kernel
theorem dX11_tithes_29 : decode cX11_tithes 29 = .ok (.aload_n 0, 1) := by decide +kernel
theorem dX11_tithes_30 : decode cX11_tithes 30 = .ok (.getfield 195, 3) := by decide +kernel
theorem dX11_tithes_33 : decode cX11_tithes 33 = .ok (.ifCond .eq 63, 3) := by decide +kernel
theorem dX11_tithes_36 : decode cX11_tithes 36 = .ok (.aload_n 0, 1) := by decide +kernel
theorem dX11_tithes_37 : decode cX11_tithes 37 = .ok (.invokevirtual 230, 3) := by decide +kernel
theorem dX11_tithes_40 : decode cX11_tithes 40 = .ok (.aload_n 0, 1) := by decide +kernel
theorem dX11_tithes_41 : decode cX11_tithes 41 = .ok (.getfield 208, 3) := by decide +kernel
theorem dX11_tithes_44 : decode cX11_tithes 44 = .ok (.ifCond .ne 33, 3) := by decide +kernel
theorem dX11_tithes_47 : decode cX11_tithes 47 = .ok (.aload_n 0, 1) := by decide +kernel
theorem dX11_tithes_48 : decode cX11_tithes 48 = .ok (.getfield 195, 3) := by decide +kernel
theorem dX11_tithes_51 : decode cX11_tithes 51 = .ok (.iconst 3, 1) := by decide +kernel
theorem dX11_tithes_52 : decode cX11_tithes 52 = .ok (.if_icmp .ne 25, 3) := by decide +kernel
theorem dX11_tithes_55 : decode cX11_tithes 55 = .ok (.aload_n 0, 1) := by decide +kernel
theorem dX11_tithes_56 : decode cX11_tithes 56 = .ok (.getfield 185, 3) := by decide +kernel
theorem dX11_tithes_59 : decode cX11_tithes 59 = .ok (.ldc2_w 233, 3) := by decide +kernel
theorem dX11_tithes_62 : decode cX11_tithes 62 = .ok (.lcmp, 1) := by decide +kernel
theorem dX11_tithes_63 : decode cX11_tithes 63 = .ok (.ifCond .ne 14, 3) := by decide +kernel
theorem dX11_tithes_66 : decode cX11_tithes 66 = .ok (.aload_n 0, 1) := by decide +kernel
theorem dX11_tithes_67 : decode cX11_tithes 67 = .ok (.invokevirtual 212, 3) := by decide +kernel
theorem dX11_tithes_70 : decode cX11_tithes 70 = .ok (.aload_n 0, 1) := by decide +kernel
theorem dX11_tithes_71 : decode cX11_tithes 71 = .ok (.invokevirtual 230, 3) := by decide +kernel
theorem dX11_tithes_74 : decode cX11_tithes 74 = .ok (.goto (-34), 3) := by decide +kernel
theorem dX11_tithes_77 : decode cX11_tithes 77 = .ok (.aload_n 0, 1) := by decide +kernel
theorem dX11_tithes_78 : decode cX11_tithes 78 = .ok (.getfield 208, 3) := by decide +kernel
theorem dX11_tithes_81 : decode cX11_tithes 81 = .ok (.ifCond .ne 15, 3) := by decide +kernel
theorem dX11_tithes_84 : decode cX11_tithes 84 = .ok (.aload_n 0, 1) := by decide +kernel
theorem dX11_tithes_85 : decode cX11_tithes 85 = .ok (.getfield 195, 3) := by decide +kernel
theorem dX11_tithes_88 : decode cX11_tithes 88 = .ok (.ifCond .eq 8, 3) := by decide +kernel
theorem dX11_tithes_91 : decode cX11_tithes 91 = .ok (.aload_n 0, 1) := by decide +kernel
