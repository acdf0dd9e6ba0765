theorem dX10_plant_48 : decode cX10_plant 48 = .ok (.aload_n 0, 1) := by decide +kernel
theorem dX10_plant_49 : decode cX10_plant 49 = .ok (.aload_n 0, 1) := by decide +kernel
theorem dX10_plant_50 : decode cX10_plant 50 = .ok (.getfield 12, 3) := by decide +kernel
theorem dX10_plant_53 : decode cX10_plant 53 = .ok (.aload_n 0, 1) := by decide +kernel
theorem dX10_plant_54 : decode cX10_plant 54 = .ok (.getfield 35, 3) := by decide +kernel
theorem dX10_plant_57 : decode cX10_plant 57 = .ok (.getfield 136, 3) := by decide +kernel
theorem dX10_plant_60 : decode cX10_plant 60 = .ok (.iload_n 1, 1) := by decide +kernel
theorem dX10_plant_61 : decode cX10_plant 61 = .ok (.iaload, 1) := by decide +kernel
theorem dX10_plant_62 : decode cX10_plant 62 = .ok (.invokevirtual 142, 3) := by decide +kernel
theorem dX10_plant_65 : decode cX10_plant 65 = .ok (.invokevirtual 97, 3) := by decide +kernel
theorem dX10_plant_68 : decode cX10_plant 68 = .ok (.ireturn, 1) := by decide +kernel
theorem dX10_fell_0 : decode cX10_fell 0 = .ok (.aload_n 0, 1) := by decide +kernel
theorem dX10_fell_1 : decode cX10_fell 1 = .ok (.getfield 35, 3) := by decide +kernel
theorem dX10_fell_4 : decode cX10_fell 4 = .ok (.iload_n 1, 1) := by decide +kernel
theorem dX10_fell_5 : decode cX10_fell 5 = .ok (.invokevirtual 133, 3) := by decide +kernel
theorem dX10_fell_8 : decode cX10_fell 8 = .ok (.ifCond .ne 10, 3) := by decide +kernel
theorem dX10_fell_11 : decode cX10_fell 11 = .ok (.aload_n 0, 1) := by decide +kernel
theorem dX10_fell_12 : decode cX10_fell 12 = .ok (.bipush (-2), 2) := by decide +kernel
theorem dX10_fell_14 : decode cX10_fell 14 = .ok (.invokevirtual 89, 3) := by decide +kernel
theorem dX10_fell_17 : decode cX10_fell 17 = .ok (.ireturn, 1) := by decide +kernel
theorem dX10_fell_18 : decode cX10_fell 18 = .ok (.aload_n 0, 1) := by decide +kernel
theorem dX10_fell_19 : decode cX10_fell 19 = .ok (.getfield 35, 3) := by decide +kernel
theorem dX10_fell_22 : decode cX10_fell 22 = .ok (.getfield 139, 3) := by decide +kernel
theorem dX10_fell_25 : decode cX10_fell 25 = .ok (.iload_n 1, 1) := by decide +kernel
theorem dX10_fell_26 : decode cX10_fell 26 = .ok (.iaload, 1) := by decide +kernel
theorem dX10_fell_27 : decode cX10_fell 27 = .ok (.iconst (-1), 1) := by decide +kernel
theorem dX10_fell_28 : decode cX10_fell 28 = .ok (.if_icmp .ne 10, 3) := by decide +kernel
theorem dX10_fell_31 : decode cX10_fell 31 = .ok (.aload_n 0, 1) := by decide +kernel
theorem dX10_fell_32 : decode cX10_fell 32 = .ok (.bipush (-3), 2) := by decide +kernel
theorem dX10_fell_34 : decode cX10_fell 34 = .ok (.invokevirtual 89, 3) := by decide +kernel
theorem dX10_fell_37 : decode cX10_fell 37 = .ok (.ireturn, 1) := by decide +kernel
theorem dX10_fell_38 : decode cX10_fell 38 = .ok (.aload_n 0, 1) := by decide +kernel
theorem dX10_fell_39 : decode cX10_fell 39 = .ok (.getfield 35, 3) := by decide +kernel
theorem dX10_fell_42 : decode cX10_fell 42 = .ok (.getfield 139, 3) := by decide +kernel
theorem dX10_fell_45 : decode cX10_fell 45 = .ok (.iload_n 1, 1) := by decide +kernel
theorem dX10_fell_46 : decode cX10_fell 46 = .ok (.iconst (-1), 1) := by decide +kernel
theorem dX10_fell_47 : decode cX10_fell 47 = .ok (.iastore, 1) := by decide +kernel
theorem dX10_fell_48 : decode cX10_fell 48 = .ok (.aload_n 0, 1) := by decide +kernel
theorem dX10_fell_49 : decode cX10_fell 49 = .ok (.iconst 0, 1) := by decide +kernel
theorem dX10_fell_50 : decode cX10_fell 50 = .ok (.invokevirtual 97, 3) := by decide +kernel
theorem dX10_fell_53 : decode cX10_fell 53 = .ok (.ireturn, 1) := by decide +kernel
theorem dX10_fresh_0 : decode cX10_fresh 0 = .ok (.aload_n 0, 1) := by decide +kernel
theorem dX10_fresh_1 : decode cX10_fresh 1 = .ok (.getfield 35, 3) := by decide +kernel
theorem dX10_fresh_4 : decode cX10_fresh 4 = .ok (.iload_n 1, 1) := by decide +kernel
theorem dX10_fresh_5 : decode cX10_fresh 5 = .ok (.invokevirtual 133, 3) := by decide +kernel
theorem dX10_fresh_8 : decode cX10_fresh 8 = .ok (.ifCond .eq 11, 3) := by decide +kernel
theorem dX10_fresh_11 : decode cX10_fresh 11 = .ok (.aload_n 0, 1) := by decide +kernel
theorem dX10_fresh_12 : decode cX10_fresh 12 = .ok (.iload_n 1, 1) := by decide +kernel
theorem dX10_fresh_13 : decode cX10_fresh 13 = .ok (.invokevirtual 145, 3) := by decide +kernel
theorem dX10_fresh_16 : decode cX10_fresh 16 = .ok (.goto 4, 3) := by decide +kernel
theorem dX10_fresh_19 : decode cX10_fresh 19 = .ok (.iconst (-1), 1) := by decide +kernel
theorem dX10_fresh_20 : decode cX10_fresh 20 = .ok (.ireturn, 1) := by decide +kernel
theorem dX10_best_0 : decode cX10_best 0 = .ok (.iload_n 1, 1) := by decide +kernel
theorem dX10_best_1 : decode cX10_best 1 = .ok (.iconst 0, 1) := by decide +kernel
theorem dX10_best_2 : decode cX10_best 2 = .ok (.ldc 148, 2) := by decide +kernel
theorem dX10_best_4 : decode cX10_best 4 = .ok (.invokestatic 85, 3) := by decide +kernel
theorem dX10_best_7 : decode cX10_best 7 = .ok (.ifCond .eq 17, 3) := by decide +kernel
theorem dX10_best_10 : decode cX10_best 10 = .ok (.iload_n 2, 1) := by decide +kernel
theorem dX10_best_11 : decode cX10_best 11 = .ok (.invokestatic 107, 3) := by decide +kernel
theorem dX10_best_14 : decode cX10_best 14 = .ok (.ifCond .eq 10, 3) := by decide +kernel
theorem dX10_best_17 : decode cX10_best 17 = .ok (.iload_n 3, 1) := by decide +kernel
theorem dX10_best_18 : decode cX10_best 18 = .ok (.invokestatic 107, 3) := by decide +kernel
theorem dX10_best_21 : decode cX10_best 21 = .ok (.ifCond .ne 5, 3) := by decide +kernel
theorem dX10_best_24 : decode cX10_best 24 = .ok (.iconst (-1), 1) := by decide +kernel
theorem dX10_best_25 : decode cX10_best 25 = .ok (.ireturn, 1) := by decide +kernel
theorem dX10_best_26 : decode cX10_best 26 = .ok (.aload_n 0, 1) := by decide +kernel
theorem dX10_best_27 : decode cX10_best 27 = .ok (.getfield 28, 3) := by decide +kernel
theorem dX10_best_30 : decode cX10_best 30 = .ok (.iload_n 2, 1) := by decide +kernel
theorem dX10_best_31 : decode cX10_best 31 = .ok (.iload_n 3, 1) := by decide +kernel
theorem dX10_best_32 : decode cX10_best 32 = .ok (.invokevirtual 149, 3) := by decide +kernel
theorem dX10_best_35 : decode cX10_best 35 = .ok (.aload_n 0, 1) := by decide +kernel
theorem dX10_best_36 : decode cX10_best 36 = .ok (.getfield 28, 3) := by decide +kernel
theorem dX10_best_39 : decode cX10_best 39 = .ok (.iload_n 1, 1) := by decide +kernel
theorem dX10_best_40 : decode cX10_best 40 = .ok (.invokevirtual 153, 3) := by decide +kernel
theorem dX10_best_43 : decode cX10_best 43 = .ok (.iload 4, 2) := by decide +kernel
theorem dX10_best_45 : decode cX10_best 45 = .ok (.tableswitch 51 0 2 #[27, 35, 43], 27) := by decide +kernel
theorem dX10_best_72 : decode cX10_best 72 = .ok (.aload_n 0, 1) := by decide +kernel
theorem dX10_best_73 : decode cX10_best 73 = .ok (.getfield 28, 3) := by decide +kernel
theorem dX10_best_76 : decode cX10_best 76 = .ok (.getfield 157, 3) := by decide +kernel
theorem dX10_best_79 : decode cX10_best 79 = .ok (.ireturn, 1) := by decide +kernel
theorem dX10_best_80 : decode cX10_best 80 = .ok (.aload_n 0, 1) := by decide +kernel
theorem dX10_best_81 : decode cX10_best 81 = .ok (.getfield 28, 3) := by decide +kernel
theorem dX10_best_84 : decode cX10_best 84 = .ok (.getfield 160, 3) := by decide +kernel
theorem dX10_best_87 : decode cX10_best 87 = .ok (.ireturn, 1) := by decide +kernel
theorem dX10_best_88 : decode cX10_best 88 = .ok (.aload_n 0, 1) := by decide +kernel
theorem dX10_best_89 : decode cX10_best 89 = .ok (.getfield 28, 3) := by decide +kernel
theorem dX10_best_92 : decode cX10_best 92 = .ok (.getfield 163, 3) := by decide +kernel
theorem dX10_best_95 : decode cX10_best 95 = .ok (.ireturn, 1) := by decide +kernel
theorem dX10_best_96 : decode cX10_best 96 = .ok (.iconst (-1), 1) := by decide +kernel
theorem dX10_best_97 : decode cX10_best 97 = .ok (.ireturn, 1) := by decide +kernel
theorem dX10_feed_0 : decode cX10_feed 0 = .ok (.aload_n 0, 1) := by decide +kernel
theorem dX10_feed_1 : decode cX10_feed 1 = .ok (.getfield 42, 3) := by decide +kernel
theorem dX10_feed_4 : decode cX10_feed 4 = .ok (.invokevirtual 166, 3) := by decide +kernel
theorem dX10_feed_7 : decode cX10_feed 7 = .ok (.ifCond .ne 5, 3) := by decide +kernel
theorem dX10_feed_10 : decode cX10_feed 10 = .ok (.iconst (-1), 1) := by decide +kernel
theorem dX10_feed_11 : decode cX10_feed 11 = .ok (.ireturn, 1) := by decide +kernel
theorem dX10_feed_12 : decode cX10_feed 12 = .ok (.aload_n 0, 1) := by decide +kernel
theorem dX10_feed_13 : decode cX10_feed 13 = .ok (.getfield 42, 3) := by decide +kernel
theorem dX10_feed_16 : decode cX10_feed 16 = .ok (.iload_n 1, 1) := by decide +kernel
theorem dX10_feed_17 : decode cX10_feed 17 = .ok (.invokevirtual 170, 3) := by decide +kernel
theorem dX10_feed_20 : decode cX10_feed 20 = .ok (.aload_n 0, 1) := by decide +kernel
theorem dX10_feed_21 : decode cX10_feed 21 = .ok (.getfield 42, 3) := by decide +kernel
theorem dX10_feed_24 : decode cX10_feed 24 = .ok (.iload_n 2, 1) := by decide +kernel
theorem dX10_feed_25 : decode cX10_feed 25 = .ok (.invokevirtual 170, 3) := by decide +kernel
theorem dX10_feed_28 : decode cX10_feed 28 = .ok (.aload_n 0, 1) := by decide +kernel
theorem dX10_feed_29 : decode cX10_feed 29 = .ok (.getfield 42, 3) := by decide +kernel
theorem dX10_feed_32 : decode cX10_feed 32 = .ok (.iload_n 3, 1) := by decide +kernel
theorem dX10_feed_33 : decode cX10_feed 33 = .ok (.invokevirtual 170, 3) := by decide +kernel
theorem dX10_feed_36 : decode cX10_feed 36 = .ok (.aload_n 0, 1) := by decide +kernel
theorem dX10_feed_37 : decode cX10_feed 37 = .ok (.getfield 42, 3) := by decide +kernel
theorem dX10_feed_40 : decode cX10_feed 40 = .ok (.iload 4, 2) := by decide +kernel
theorem dX10_feed_42 : decode cX10_feed 42 = .ok (.invokevirtual 170, 3) := by decide +kernel
theorem dX10_feed_45 : decode cX10_feed 45 = .ok (.aload_n 0, 1) := by decide +kernel
theorem dX10_feed_46 : decode cX10_feed 46 = .ok (.getfield 42, 3) := by decide +kernel
theorem dX10_feed_49 : decode cX10_feed 49 = .ok (.iload 5, 2) := by decide +kernel
theorem dX10_feed_51 : decode cX10_feed 51 = .ok (.invokevirtual 170, 3) := by decide +kernel
theorem dX10_feed_54 : decode cX10_feed 54 = .ok (.aload_n 0, 1) := by decide +kernel
theorem dX10_feed_55 : decode cX10_feed 55 = .ok (.getfield 42, 3) := by decide +kernel
theorem dX10_feed_58 : decode cX10_feed 58 = .ok (.getfield 173, 3) := by decide +kernel
theorem dX10_feed_61 : decode cX10_feed 61 = .ok (.ireturn, 1) := by decide +kernel
theorem dX10_end_0 : decode cX10_end 0 = .ok (.iload_n 1, 1) := by decide +kernel
theorem dX10_end_1 : decode cX10_end 1 = .ok (.iconst 0, 1) := by decide +kernel
theorem dX10_end_2 : decode cX10_end 2 = .ok (.aload_n 0, 1) := by decide +kernel
theorem dX10_end_3 : decode cX10_end 3 = .ok (.getfield 42, 3) := by decide +kernel
theorem dX10_end_6 : decode cX10_end 6 = .ok (.getfield 173, 3) := by decide +kernel
theorem dX10_end_9 : decode cX10_end 9 = .ok (.invokestatic 85, 3) := by decide +kernel
theorem dX10_end_12 : decode cX10_end 12 = .ok (.ifCond .ne 5, 3) := by decide +kernel
theorem dX10_end_15 : decode cX10_end 15 = .ok (.iconst (-1), 1) := by decide +kernel
theorem dX10_end_16 : decode cX10_end 16 = .ok (.ireturn, 1) := by decide +kernel
theorem dX10_end_17 : decode cX10_end 17 = .ok (.aload_n 0, 1) := by decide +kernel
theorem dX10_end_18 : decode cX10_end 18 = .ok (.getfield 42, 3) := by decide +kernel
theorem dX10_end_21 : decode cX10_end 21 = .ok (.iload_n 1, 1) := by decide +kernel
theorem dX10_end_22 : decode cX10_end 22 = .ok (.putfield 173, 3) := by decide +kernel
theorem dX10_end_25 : decode cX10_end 25 = .ok (.iload_n 1, 1) := by decide +kernel
theorem dX10_end_26 : decode cX10_end 26 = .ok (.ireturn, 1) := by decide +kernel
theorem dX10_tithes_0 : decode cX10_tithes 0 = .ok (.aload_n 0, 1) := by decide +kernel
theorem dX10_tithes_1 : decode cX10_tithes 1 = .ok (.getfield 58, 3) := by decide +kernel
theorem dX10_tithes_4 : decode cX10_tithes 4 = .ok (.invokevirtual 176, 3) := by decide +kernel
theorem dX10_tithes_7 : decode cX10_tithes 7 = .ok (.istore_n 1, 1) := by decide +kernel
theorem dX10_tithes_8 : decode cX10_tithes 8 = .ok (.aload_n 0, 1) := by decide +kernel
theorem dX10_tithes_9 : decode cX10_tithes 9 = .ok (.getfield 42, 3) := by decide +kernel
theorem dX10_tithes_12 : decode cX10_tithes 12 = .ok (.iconst 0, 1) := by decide +kernel
theorem dX10_tithes_13 : decode cX10_tithes 13 = .ok (.putfield 173, 3) := by decide +kernel
theorem dX10_tithes_16 : decode cX10_tithes 16 = .ok (.iload_n 1, 1) := by decide +kernel
theorem dX10_tithes_17 : decode cX10_tithes 17 = .ok (.ifCond .ne 10, 3) := by decide +kernel
theorem dX10_tithes_20 : decode cX10_tithes 20 = .ok (.aload_n 0, 1) := by decide +kernel
theorem dX10_tithes_21 : decode cX10_tithes 21 = .ok (.bipush (-6), 2) := by decide +kernel
theorem dX10_tithes_23 : decode cX10_tithes 23 = .ok (.invokevirtual 89, 3) := by decide +kernel
theorem dX10_tithes_26 : decode cX10_tithes 26 = .ok (.ireturn, 1) := by decide +kernel
theorem dX10_tithes_27 : decode cX10_tithes 27 = .ok (.aload_n 0, 1) := by decide +kernel
theorem dX10_tithes_28 : decode cX10_tithes 28 = .ok (.getfield 49, 3) := by decide +kernel
theorem dX10_tithes_31 : decode cX10_tithes 31 = .ok (.aload_n 0, 1) := by decide +kernel
theorem dX10_tithes_32 : decode cX10_tithes 32 = .ok (.getfield 58, 3) := by decide +kernel
theorem dX10_tithes_35 : decode cX10_tithes 35 = .ok (.getfield 179, 3) := by decide +kernel
theorem dX10_tithes_38 : decode cX10_tithes 38 = .ok (.invokevirtual 182, 3) := by decide +kernel
theorem dX10_tithes_41 : decode cX10_tithes 41 = .ok (.aload_n 0, 1) := by decide +kernel
theorem dX10_tithes_42 : decode cX10_tithes 42 = .ok (.aload_n 0, 1) := by decide +kernel
theorem dX10_tithes_43 : decode cX10_tithes 43 = .ok (.getfield 49, 3) := by decide +kernel
theorem dX10_tithes_46 : decode cX10_tithes 46 = .ok (.getfield 186, 3) := by decide +kernel
theorem dX10_tithes_49 : decode cX10_tithes 49 = .ok (.invokevirtual 97, 3) := by decide +kernel
theorem dX10_tithes_52 : decode cX10_tithes 52 = .ok (.ireturn, 1) := by decide +kernel
theorem dX10_fault_0 : decode cX10_fault 0 = .ok (.aload_n 0, 1) := by decide +kernel
theorem dX10_fault_1 : decode cX10_fault 1 = .ok (.getfield 58, 3) := by decide +kernel
theorem dX10_fault_4 : decode cX10_fault 4 = .ok (.getfield 187, 3) := by decide +kernel
theorem dX10_fault_7 : decode cX10_fault 7 = .ok (.ireturn, 1) := by decide +kernel
theorem dX10_tithe_0 : decode cX10_tithe 0 = .ok (.iload_n 1, 1) := by decide +kernel
theorem dX10_tithe_1 : decode cX10_tithe 1 = .ok (.iconst 0, 1) := by decide +kernel
theorem dX10_tithe_2 : decode cX10_tithe 2 = .ok (.sipush 2000, 3) := by decide +kernel
theorem dX10_tithe_5 : decode cX10_tithe 5 = .ok (.invokestatic 85, 3) := by decide +kernel
theorem dX10_tithe_8 : decode cX10_tithe 8 = .ok (.ifCond .eq 23, 3) := by decide +kernel
theorem dX10_tithe_11 : decode cX10_tithe 11 = .ok (.iload_n 2, 1) := by decide +kernel
theorem dX10_tithe_12 : decode cX10_tithe 12 = .ok (.iconst 0, 1) := by decide +kernel
theorem dX10_tithe_13 : decode cX10_tithe 13 = .ok (.bipush 24, 2) := by decide +kernel
theorem dX10_tithe_15 : decode cX10_tithe 15 = .ok (.invokestatic 85, 3) := by decide +kernel
theorem dX10_tithe_18 : decode cX10_tithe 18 = .ok (.ifCond .eq 13, 3) := by decide +kernel
theorem dX10_tithe_21 : decode cX10_tithe 21 = .ok (.iload_n 3, 1) := by decide +kernel
theorem dX10_tithe_22 : decode cX10_tithe 22 = .ok (.iconst 0, 1) := by decide +kernel
theorem dX10_tithe_23 : decode cX10_tithe 23 = .ok (.ldc 190, 2) := by decide +kernel
theorem dX10_tithe_25 : decode cX10_tithe 25 = .ok (.invokestatic 85, 3) := by decide +kernel
theorem dX10_tithe_28 : decode cX10_tithe 28 = .ok (.ifCond .ne 7, 3) := by decide +kernel
theorem dX10_tithe_31 : decode cX10_tithe 31 = .ok (.ldc2_w 191, 3) := by decide +kernel
theorem dX10_tithe_34 : decode cX10_tithe 34 = .ok (.lreturn, 1) := by decide +kernel
theorem dX10_tithe_35 : decode cX10_tithe 35 = .ok (.aload_n 0, 1) := by decide +kernel
theorem dX10_tithe_36 : decode cX10_tithe 36 = .ok (.getfield 49, 3) := by decide +kernel
theorem dX10_tithe_39 : decode cX10_tithe 39 = .ok (.iload_n 1, 1) := by decide +kernel
theorem dX10_tithe_40 : decode cX10_tithe 40 = .ok (.iload_n 2, 1) := by decide +kernel
theorem dX10_tithe_41 : decode cX10_tithe 41 = .ok (.iload_n 3, 1) := by decide +kernel
theorem dX10_tithe_42 : decode cX10_tithe 42 = .ok (.invokevirtual 193, 3) := by decide +kernel
theorem dX10_tithe_45 : decode cX10_tithe 45 = .ok (.lreturn, 1) := by decide +kernel
theorem dX10_plan_0 : decode cX10_plan 0 = .ok (.aload_n 0, 1) := by decide +kernel
theorem dX10_plan_1 : decode cX10_plan 1 = .ok (.getfield 35, 3) := by decide +kernel
theorem dX10_plan_4 : decode cX10_plan 4 = .ok (.iload_n 1, 1) := by decide +kernel
theorem dX10_plan_5 : decode cX10_plan 5 = .ok (.invokevirtual 133, 3) := by decide +kernel
theorem dX10_plan_8 : decode cX10_plan 8 = .ok (.ifCond .eq 26, 3) := by decide +kernel
theorem dX10_plan_11 : decode cX10_plan 11 = .ok (.iload_n 2, 1) := by decide +kernel
theorem dX10_plan_12 : decode cX10_plan 12 = .ok (.iconst 1, 1) := by decide +kernel
theorem dX10_plan_13 : decode cX10_plan 13 = .ok (.bipush 20, 2) := by decide +kernel
theorem dX10_plan_15 : decode cX10_plan 15 = .ok (.invokestatic 85, 3) := by decide +kernel
theorem dX10_plan_18 : decode cX10_plan 18 = .ok (.ifCond .eq 16, 3) := by decide +kernel
theorem dX10_plan_21 : decode cX10_plan 21 = .ok (.aload_n 0, 1) := by decide +kernel
theorem dX10_plan_22 : decode cX10_plan 22 = .ok (.getfield 197, 3) := by decide +kernel
theorem dX10_plan_25 : decode cX10_plan 25 = .ok (.iload_n 2, 1) := by decide +kernel
theorem dX10_plan_26 : decode cX10_plan 26 = .ok (.iadd, 1) := by decide +kernel
theorem dX10_plan_27 : decode cX10_plan 27 = .ok (.iconst 1, 1) := by decide +kernel
theorem dX10_plan_28 : decode cX10_plan 28 = .ok (.isub, 1) := by decide +kernel
theorem dX10_plan_29 : decode cX10_plan 29 = .ok (.bipush 39, 2) := by decide +kernel
theorem dX10_plan_31 : decode cX10_plan 31 = .ok (.if_icmp .le 7, 3) := by decide +kernel
theorem dX10_plan_34 : decode cX10_plan 34 = .ok (.ldc2_w 200, 3) := by decide +kernel
theorem dX10_plan_37 : decode cX10_plan 37 = .ok (.lreturn, 1) := by decide +kernel
theorem dX10_plan_38 : decode cX10_plan 38 = .ok (.aload_n 0, 1) := by decide +kernel
theorem dX10_plan_39 : decode cX10_plan 39 = .ok (.getfield 67, 3) := by decide +kernel
theorem dX10_plan_42 : decode cX10_plan 42 = .ok (.aload_n 0, 1) := by decide +kernel
theorem dX10_plan_43 : decode cX10_plan 43 = .ok (.getfield 35, 3) := by decide +kernel
theorem dX10_plan_46 : decode cX10_plan 46 = .ok (.getfield 136, 3) := by decide +kernel
theorem dX10_plan_49 : decode cX10_plan 49 = .ok (.iload_n 1, 1) := by decide +kernel
theorem dX10_plan_50 : decode cX10_plan 50 = .ok (.iaload, 1) := by decide +kernel
theorem dX10_plan_51 : decode cX10_plan 51 = .ok (.aload_n 0, 1) := by decide +kernel
theorem dX10_plan_52 : decode cX10_plan 52 = .ok (.getfield 35, 3) := by decide +kernel
theorem dX10_plan_55 : decode cX10_plan 55 = .ok (.getfield 139, 3) := by decide +kernel
theorem dX10_plan_58 : decode cX10_plan 58 = .ok (.iload_n 1, 1) := by decide +kernel
theorem dX10_plan_59 : decode cX10_plan 59 = .ok (.iaload, 1) := by decide +kernel
theorem dX10_plan_60 : decode cX10_plan 60 = .ok (.aload_n 0, 1) := by decide +kernel
theorem dX10_plan_61 : decode cX10_plan 61 = .ok (.getfield 197, 3) := by decide +kernel
theorem dX10_plan_64 : decode cX10_plan 64 = .ok (.iload_n 2, 1) := by decide +kernel
theorem dX10_plan_65 : decode cX10_plan 65 = .ok (.invokevirtual 202, 3) := by decide +kernel
theorem dX10_plan_68 : decode cX10_plan 68 = .ok (.lreturn, 1) := by decide +kernel
theorem dX10_planned_0 : decode cX10_planned 0 = .ok (.iload_n 1, 1) := by decide +kernel
theorem dX10_planned_1 : decode cX10_planned 1 = .ok (.iconst (-1), 1) := by decide +kernel
theorem dX10_planned_2 : decode cX10_planned 2 = .ok (.if_icmp .ne 11, 3) := by decide +kernel
theorem dX10_planned_5 : decode cX10_planned 5 = .ok (.aload_n 0, 1) := by decide +kernel
theorem dX10_planned_6 : decode cX10_planned 6 = .ok (.getfield 67, 3) := by decide +kernel
theorem dX10_planned_9 : decode cX10_planned 9 = .ok (.getfield 206, 3) := by decide +kernel
theorem dX10_planned_12 : decode cX10_planned 12 = .ok (.ireturn, 1) := by decide +kernel
theorem dX10_planned_13 : decode cX10_planned 13 = .ok (.iload_n 1, 1) := by decide +kernel
theorem dX10_planned_14 : decode cX10_planned 14 = .ok (.iconst 0, 1) := by decide +kernel
theorem dX10_planned_15 : decode cX10_planned 15 = .ok (.aload_n 0, 1) := by decide +kernel
theorem dX10_planned_16 : decode cX10_planned 16 = .ok (.getfield 67, 3) := by decide +kernel
theorem dX10_planned_19 : decode cX10_planned 19 = .ok (.getfield 206, 3) := by decide +kernel
theorem dX10_planned_22 : decode cX10_planned 22 = .ok (.iconst 1, 1) := by decide +kernel
theorem dX10_planned_23 : decode cX10_planned 23 = .ok (.isub, 1) := by decide +kernel
theorem dX10_planned_24 : decode cX10_planned 24 = .ok (.invokestatic 85, 3) := by decide +kernel
theorem dX10_planned_27 : decode cX10_planned 27 = .ok (.ifCond .eq 15, 3) := by decide +kernel
theorem dX10_planned_30 : decode cX10_planned 30 = .ok (.aload_n 0, 1) := by decide +kernel
theorem dX10_planned_31 : decode cX10_planned 31 = .ok (.getfield 67, 3) := by decide +kernel
theorem dX10_planned_34 : decode cX10_planned 34 = .ok (.getfield 209, 3) := by decide +kernel
theorem dX10_planned_37 : decode cX10_planned 37 = .ok (.iload_n 1, 1) := by decide +kernel
theorem dX10_planned_38 : decode cX10_planned 38 = .ok (.iaload, 1) := by decide +kernel
theorem dX10_planned_39 : decode cX10_planned 39 = .ok (.goto 4, 3) := by decide +kernel
theorem dX10_planned_42 : decode cX10_planned 42 = .ok (.iconst (-1), 1) := by decide +kernel
theorem dX10_planned_43 : decode cX10_planned 43 = .ok (.ireturn, 1) := by decide +kernel
theorem dX10_go_0 : decode cX10_go 0 = .ok (.iload_n 1, 1) := by decide +kernel
theorem dX10_go_1 : decode cX10_go 1 = .ok (.iconst 1, 1) := by decide +kernel
theorem dX10_go_2 : decode cX10_go 2 = .ok (.bipush 20, 2) := by decide +kernel
theorem dX10_go_4 : decode cX10_go 4 = .ok (.invokestatic 85, 3) := by decide +kernel
theorem dX10_go_7 : decode cX10_go 7 = .ok (.ifCond .eq 14, 3) := by decide +kernel
theorem dX10_go_10 : decode cX10_go 10 = .ok (.aload_n 0, 1) := by decide +kernel
theorem dX10_go_11 : decode cX10_go 11 = .ok (.getfield 197, 3) := by decide +kernel
theorem dX10_go_14 : decode cX10_go 14 = .ok (.iload_n 1, 1) := by decide +kernel
theorem dX10_go_15 : decode cX10_go 15 = .ok (.iadd, 1) := by decide +kernel
theorem dX10_go_16 : decode cX10_go 16 = .ok (.bipush 39, 2) := by decide +kernel
theorem dX10_go_18 : decode cX10_go 18 = .ok (.if_icmp .le 9, 3) := by decide +kernel
theorem dX10_go_21 : decode cX10_go 21 = .ok (.aload_n 0, 1) := by decide +kernel
theorem dX10_go_22 : decode cX10_go 22 = .ok (.iconst (-1), 1) := by decide +kernel
theorem dX10_go_23 : decode cX10_go 23 = .ok (.invokevirtual 89, 3) := by decide +kernel
theorem dX10_go_26 : decode cX10_go 26 = .ok (.ireturn, 1) := by decide +kernel
theorem dX10_go_27 : decode cX10_go 27 = .ok (.iconst 0, 1) := by decide +kernel
theorem dX10_go_28 : decode cX10_go 28 = .ok (.istore_n 2, 1) := by decide +kernel
theorem dX10_go_29 : decode cX10_go 29 = .ok (.iload_n 2, 1) := by decide +kernel
theorem dX10_go_30 : decode cX10_go 30 = .ok (.iload_n 1, 1) := by decide +kernel
theorem dX10_go_31 : decode cX10_go 31 = .ok (.if_icmp .ge 13, 3) := by decide +kernel
theorem dX10_go_34 : decode cX10_go 34 = .ok (.aload_n 0, 1) := by decide +kernel
theorem dX10_go_35 : decode cX10_go 35 = .ok (.invokevirtual 212, 3) := by decide +kernel
theorem dX10_go_38 : decode cX10_go 38 = .ok (.iinc 2 1, 3) := by decide +kernel
theorem dX10_go_41 : decode cX10_go 41 = .ok (.goto (-12), 3) := by decide +kernel
theorem dX10_go_44 : decode cX10_go 44 = .ok (.aload_n 0, 1) := by decide +kernel
theorem dX10_go_45 : decode cX10_go 45 = .ok (.aload_n 0, 1) := by decide +kernel
theorem dX10_go_46 : decode cX10_go 46 = .ok (.getfield 197, 3) := by decide +kernel
theorem dX10_go_49 : decode cX10_go 49 = .ok (.invokevirtual 97, 3) := by decide +kernel
theorem dX10_go_52 : decode cX10_go 52 = .ok (.ireturn, 1) := by decide +kernel
theorem dX10_stock_0 : decode cX10_stock 0 = .ok (.iload_n 1, 1) := by decide +kernel
theorem dX10_stock_1 : decode cX10_stock 1 = .ok (.invokestatic 100, 3) := by decide +kernel
theorem dX10_stock_4 : decode cX10_stock 4 = .ok (.ifCond .eq 19, 3) := by decide +kernel
theorem dX10_stock_7 : decode cX10_stock 7 = .ok (.iload_n 2, 1) := by decide +kernel
theorem dX10_stock_8 : decode cX10_stock 8 = .ok (.iconst (-1), 1) := by decide +kernel
theorem dX10_stock_9 : decode cX10_stock 9 = .ok (.if_icmp .eq 16, 3) := by decide +kernel
theorem dX10_stock_12 : decode cX10_stock 12 = .ok (.aload_n 0, 1) := by decide +kernel
theorem dX10_stock_13 : decode cX10_stock 13 = .ok (.getfield 35, 3) := by decide +kernel
theorem dX10_stock_16 : decode cX10_stock 16 = .ok (.iload_n 2, 1) := by decide +kernel
theorem dX10_stock_17 : decode cX10_stock 17 = .ok (.invokevirtual 133, 3) := by decide +kernel
theorem dX10_stock_20 : decode cX10_stock 20 = .ok (.ifCond .ne 5, 3) := by decide +kernel
theorem dX10_stock_23 : decode cX10_stock 23 = .ok (.iconst (-1), 1) := by decide +kernel
theorem dX10_stock_24 : decode cX10_stock 24 = .ok (.ireturn, 1) := by decide +kernel
theorem dX10_stock_25 : decode cX10_stock 25 = .ok (.aload_n 0, 1) := by decide +kernel
theorem dX10_stock_26 : decode cX10_stock 26 = .ok (.getfield 74, 3) := by decide +kernel
theorem dX10_stock_29 : decode cX10_stock 29 = .ok (.iload_n 1, 1) := by decide +kernel
theorem dX10_stock_30 : decode cX10_stock 30 = .ok (.iload_n 2, 1) := by decide +kernel
theorem dX10_stock_31 : decode cX10_stock 31 = .ok (.invokevirtual 215, 3) := by decide +kernel
theorem dX10_stock_34 : decode cX10_stock 34 = .ok (.ireturn, 1) := by decide +kernel
theorem dX10_advance_0 : decode cX10_advance 0 = .ok (.iload_n 1, 1) := by decide +kernel
theorem dX10_advance_1 : decode cX10_advance 1 = .ok (.invokestatic 100, 3) := by decide +kernel
theorem dX10_advance_4 : decode cX10_advance 4 = .ok (.ifCond .eq 40, 3) := by decide +kernel
theorem dX10_advance_7 : decode cX10_advance 7 = .ok (.iload_n 2, 1) := by decide +kernel
theorem dX10_advance_8 : decode cX10_advance 8 = .ok (.iconst 1, 1) := by decide +kernel
theorem dX10_advance_9 : decode cX10_advance 9 = .ok (.sipush 10000, 3) := by decide +kernel
theorem dX10_advance_12 : decode cX10_advance 12 = .ok (.invokestatic 85, 3) := by decide +kernel
theorem dX10_advance_15 : decode cX10_advance 15 = .ok (.ifCond .eq 29, 3) := by decide +kernel
theorem dX10_advance_18 : decode cX10_advance 18 = .ok (.iload_n 3, 1) := by decide +kernel
theorem dX10_advance_19 : decode cX10_advance 19 = .ok (.invokestatic 107, 3) := by decide +kernel
theorem dX10_advance_22 : decode cX10_advance 22 = .ok (.ifCond .eq 22, 3) := by decide +kernel
theorem dX10_advance_25 : decode cX10_advance 25 = .ok (.iload 4, 2) := by decide +kernel
theorem dX10_advance_27 : decode cX10_advance 27 = .ok (.iconst 0, 1) := by decide +kernel
theorem dX10_advance_28 : decode cX10_advance 28 = .ok (.ldc 218, 2) := by decide +kernel
theorem dX10_advance_30 : decode cX10_advance 30 = .ok (.invokestatic 85, 3) := by decide +kernel
theorem dX10_advance_33 : decode cX10_advance 33 = .ok (.ifCond .eq 11, 3) := by decide +kernel
theorem dX10_advance_36 : decode cX10_advance 36 = .ok (.iload 5, 2) := by decide +kernel
theorem dX10_advance_38 : decode cX10_advance 38 = .ok (.invokestatic 107, 3) := by decide +kernel
theorem dX10_advance_41 : decode cX10_advance 41 = .ok (.ifCond .ne 9, 3) := by decide +kernel
theorem dX10_advance_44 : decode cX10_advance 44 = .ok (.aload_n 0, 1) := by decide +kernel
theorem dX10_advance_45 : decode cX10_advance 45 = .ok (.iconst (-1), 1) := by decide +kernel
theorem dX10_advance_46 : decode cX10_advance 46 = .ok (.invokevirtual 89, 3) := by decide +kernel
theorem dX10_advance_49 : decode cX10_advance 49 = .ok (.ireturn, 1) := by decide +kernel
theorem dX10_advance_50 : decode cX10_advance 50 = .ok (.aload_n 0, 1) := by decide +kernel
theorem dX10_advance_51 : decode cX10_advance 51 = .ok (.getfield 81, 3) := by decide +kernel
theorem dX10_advance_54 : decode cX10_advance 54 = .ok (.getfield 219, 3) := by decide +kernel
theorem dX10_advance_57 : decode cX10_advance 57 = .ok (.bipush 60, 2) := by decide +kernel
theorem dX10_advance_59 : decode cX10_advance 59 = .ok (.if_icmp .lt 10, 3) := by decide +kernel
theorem dX10_advance_62 : decode cX10_advance 62 = .ok (.aload_n 0, 1) := by decide +kernel
theorem dX10_advance_63 : decode cX10_advance 63 = .ok (.bipush (-5), 2) := by decide +kernel
theorem dX10_advance_65 : decode cX10_advance 65 = .ok (.invokevirtual 89, 3) := by decide +kernel
theorem dX10_advance_68 : decode cX10_advance 68 = .ok (.ireturn, 1) := by decide +kernel
theorem dX10_advance_69 : decode cX10_advance 69 = .ok (.aload_n 0, 1) := by decide +kernel
theorem dX10_advance_70 : decode cX10_advance 70 = .ok (.aload_n 0, 1) := by decide +kernel
theorem dX10_advance_71 : decode cX10_advance 71 = .ok (.getfield 81, 3) := by decide +kernel
theorem dX10_advance_74 : decode cX10_advance 74 = .ok (.iload_n 1, 1) := by decide +kernel
theorem dX10_advance_75 : decode cX10_advance 75 = .ok (.iload_n 2, 1) := by decide +kernel
theorem dX10_advance_76 : decode cX10_advance 76 = .ok (.iload_n 3, 1) := by decide +kernel
theorem dX10_advance_77 : decode cX10_advance 77 = .ok (.iload 5, 2) := by decide +kernel
theorem dX10_advance_79 : decode cX10_advance 79 = .ok (.invokevirtual 220, 3) := by decide +kernel
theorem dX10_advance_82 : decode cX10_advance 82 = .ok (.invokevirtual 97, 3) := by decide +kernel
theorem dX10_advance_85 : decode cX10_advance 85 = .ok (.ireturn, 1) := by decide +kernel
theorem dX10_bring_0 : decode cX10_bring 0 = .ok (.aload_n 0, 1) := by decide +kernel
theorem dX10_bring_1 : decode cX10_bring 1 = .ok (.getfield 81, 3) := by decide +kernel
theorem dX10_bring_4 : decode cX10_bring 4 = .ok (.iload_n 1, 1) := by decide +kernel
theorem dX10_bring_5 : decode cX10_bring 5 = .ok (.invokevirtual 224, 3) := by decide +kernel
theorem dX10_bring_8 : decode cX10_bring 8 = .ok (.ifCond .ne 10, 3) := by decide +kernel
theorem dX10_bring_11 : decode cX10_bring 11 = .ok (.aload_n 0, 1) := by decide +kernel
theorem dX10_bring_12 : decode cX10_bring 12 = .ok (.bipush (-2), 2) := by decide +kernel
theorem dX10_bring_14 : decode cX10_bring 14 = .ok (.invokevirtual 89, 3) := by decide +kernel
theorem dX10_bring_17 : decode cX10_bring 17 = .ok (.ireturn, 1) := by decide +kernel
theorem dX10_bring_18 : decode cX10_bring 18 = .ok (.aload_n 0, 1) := by decide +kernel
theorem dX10_bring_19 : decode cX10_bring 19 = .ok (.aload_n 0, 1) := by decide +kernel
theorem dX10_bring_20 : decode cX10_bring 20 = .ok (.getfield 81, 3) := by decide +kernel
theorem dX10_bring_23 : decode cX10_bring 23 = .ok (.aload_n 0, 1) := by decide +kernel
theorem dX10_bring_24 : decode cX10_bring 24 = .ok (.getfield 74, 3) := by decide +kernel
theorem dX10_bring_27 : decode cX10_bring 27 = .ok (.iload_n 1, 1) := by decide +kernel
theorem dX10_bring_28 : decode cX10_bring 28 = .ok (.invokevirtual 225, 3) := by decide +kernel
theorem dX10_bring_31 : decode cX10_bring 31 = .ok (.invokevirtual 97, 3) := by decide +kernel
theorem dX10_bring_34 : decode cX10_bring 34 = .ok (.ireturn, 1) := by decide +kernel
theorem dX10_owed_0 : decode cX10_owed 0 = .ok (.iload_n 1, 1) := by decide +kernel
theorem dX10_owed_1 : decode cX10_owed 1 = .ok (.invokestatic 100, 3) := by decide +kernel
theorem dX10_owed_4 : decode cX10_owed 4 = .ok (.ifCond .eq 10, 3) := by decide +kernel
theorem dX10_owed_7 : decode cX10_owed 7 = .ok (.iload_n 2, 1) := by decide +kernel
theorem dX10_owed_8 : decode cX10_owed 8 = .ok (.invokestatic 107, 3) := by decide +kernel
theorem dX10_owed_11 : decode cX10_owed 11 = .ok (.ifCond .ne 5, 3) := by decide +kernel
theorem dX10_owed_14 : decode cX10_owed 14 = .ok (.iconst (-1), 1) := by decide +kernel
theorem dX10_owed_15 : decode cX10_owed 15 = .ok (.ireturn, 1) := by decide +kernel
theorem dX10_owed_16 : decode cX10_owed 16 = .ok (.aload_n 0, 1) := by decide +kernel
theorem dX10_owed_17 : decode cX10_owed 17 = .ok (.getfield 81, 3) := by decide +kernel
theorem dX10_owed_20 : decode cX10_owed 20 = .ok (.iload_n 1, 1) := by decide +kernel
theorem dX10_owed_21 : decode cX10_owed 21 = .ok (.iload_n 2, 1) := by decide +kernel
theorem dX10_owed_22 : decode cX10_owed 22 = .ok (.invokevirtual 229, 3) := by decide +kernel
theorem dX10_owed_25 : decode cX10_owed 25 = .ok (.ireturn, 1) := by decide +kernel
theorem dX10_led_0 : decode cX10_led 0 = .ok (.aload_n 0, 1) := by decide +kernel
theorem dX10_led_1 : decode cX10_led 1 = .ok (.getfield 81, 3) := by decide +kernel
theorem dX10_led_4 : decode cX10_led 4 = .ok (.iload_n 1, 1) := by decide +kernel
theorem dX10_led_5 : decode cX10_led 5 = .ok (.invokevirtual 224, 3) := by decide +kernel
theorem dX10_led_8 : decode cX10_led 8 = .ok (.ifCond .eq 14, 3) := by decide +kernel
theorem dX10_led_11 : decode cX10_led 11 = .ok (.aload_n 0, 1) := by decide +kernel
theorem dX10_led_12 : decode cX10_led 12 = .ok (.getfield 35, 3) := by decide +kernel
theorem dX10_led_15 : decode cX10_led 15 = .ok (.iload_n 2, 1) := by decide +kernel
theorem dX10_led_16 : decode cX10_led 16 = .ok (.invokevirtual 133, 3) := by decide +kernel
theorem dX10_led_19 : decode cX10_led 19 = .ok (.ifCond .ne 5, 3) := by decide +kernel
theorem dX10_led_22 : decode cX10_led 22 = .ok (.iconst (-1), 1) := by decide +kernel
theorem dX10_led_23 : decode cX10_led 23 = .ok (.ireturn, 1) := by decide +kernel
theorem dX10_led_24 : decode cX10_led 24 = .ok (.aload_n 0, 1) := by decide +kernel
theorem dX10_led_25 : decode cX10_led 25 = .ok (.getfield 81, 3) := by decide +kernel
theorem dX10_led_28 : decode cX10_led 28 = .ok (.iload_n 1, 1) := by decide +kernel
theorem dX10_led_29 : decode cX10_led 29 = .ok (.iload_n 2, 1) := by decide +kernel
theorem dX10_led_30 : decode cX10_led 30 = .ok (.invokevirtual 232, 3) := by decide +kernel
theorem dX10_led_33 : decode cX10_led 33 = .ok (.ireturn, 1) := by decide +kernel
theorem dX10_count_0 : decode cX10_count 0 = .ok (.iload_n 1, 1) := by decide +kernel
theorem dX10_count_1 : decode cX10_count 1 = .ok (.tableswitch 120 0 8 #[51, 56, 64, 72, 80, 88, 96, 104, 112], 51) := by decide +kernel
theorem dX10_count_52 : decode cX10_count 52 = .ok (.aload_n 0, 1) := by decide +kernel
theorem dX10_count_53 : decode cX10_count 53 = .ok (.getfield 197, 3) := by decide +kernel
theorem dX10_count_56 : decode cX10_count 56 = .ok (.ireturn, 1) := by decide +kernel
theorem dX10_count_57 : decode cX10_count 57 = .ok (.aload_n 0, 1) := by decide +kernel
theorem dX10_count_58 : decode cX10_count 58 = .ok (.getfield 35, 3) := by decide +kernel
theorem dX10_count_61 : decode cX10_count 61 = .ok (.getfield 128, 3) := by decide +kernel
theorem dX10_count_64 : decode cX10_count 64 = .ok (.ireturn, 1) := by decide +kernel
theorem dX10_count_65 : decode cX10_count 65 = .ok (.aload_n 0, 1) := by decide +kernel
theorem dX10_count_66 : decode cX10_count 66 = .ok (.getfield 19, 3) := by decide +kernel
theorem dX10_count_69 : decode cX10_count 69 = .ok (.getfield 110, 3) := by decide +kernel
theorem dX10_count_72 : decode cX10_count 72 = .ok (.ireturn, 1) := by decide +kernel
theorem dX10_count_73 : decode cX10_count 73 = .ok (.aload_n 0, 1) := by decide +kernel
theorem dX10_count_74 : decode cX10_count 74 = .ok (.getfield 49, 3) := by decide +kernel
theorem dX10_count_77 : decode cX10_count 77 = .ok (.getfield 186, 3) := by decide +kernel
theorem dX10_count_80 : decode cX10_count 80 = .ok (.ireturn, 1) := by decide +kernel
theorem dX10_count_81 : decode cX10_count 81 = .ok (.aload_n 0, 1) := by decide +kernel
theorem dX10_count_82 : decode cX10_count 82 = .ok (.getfield 74, 3) := by decide +kernel
theorem dX10_count_85 : decode cX10_count 85 = .ok (.getfield 235, 3) := by decide +kernel
theorem dX10_count_88 : decode cX10_count 88 = .ok (.ireturn, 1) := by decide +kernel
theorem dX10_count_89 : decode cX10_count 89 = .ok (.aload_n 0, 1) := by decide +kernel
theorem dX10_count_90 : decode cX10_count 90 = .ok (.getfield 81, 3) := by decide +kernel
theorem dX10_count_93 : decode cX10_count 93 = .ok (.getfield 219, 3) := by decide +kernel
theorem dX10_count_96 : decode cX10_count 96 = .ok (.ireturn, 1) := by decide +kernel
theorem dX10_count_97 : decode cX10_count 97 = .ok (.aload_n 0, 1) := by decide +kernel
theorem dX10_count_98 : decode cX10_count 98 = .ok (.getfield 42, 3) := by decide +kernel
theorem dX10_count_101 : decode cX10_count 101 = .ok (.getfield 173, 3) := by decide +kernel
theorem dX10_count_104 : decode cX10_count 104 = .ok (.ireturn, 1) := by decide +kernel
theorem dX10_count_105 : decode cX10_count 105 = .ok (.aload_n 0, 1) := by decide +kernel
theorem dX10_count_106 : decode cX10_count 106 = .ok (.getfield 74, 3) := by decide +kernel
theorem dX10_count_109 : decode cX10_count 109 = .ok (.getfield 236, 3) := by decide +kernel
theorem dX10_count_112 : decode cX10_count 112 = .ok (.ireturn, 1) := by decide +kernel
theorem dX10_count_113 : decode cX10_count 113 = .ok (.aload_n 0, 1) := by decide +kernel
theorem dX10_count_114 : decode cX10_count 114 = .ok (.getfield 81, 3) := by decide +kernel
theorem dX10_count_117 : decode cX10_count 117 = .ok (.getfield 239, 3) := by decide +kernel
theorem dX10_count_120 : decode cX10_count 120 = .ok (.ireturn, 1) := by decide +kernel
theorem dX10_count_121 : decode cX10_count 121 = .ok (.iconst (-1), 1) := by decide +kernel
theorem dX10_count_122 : decode cX10_count 122 = .ok (.ireturn, 1) := by decide +kernel
theorem dX10_status_0 : decode cX10_status 0 = .ok (.aload_n 0, 1) := by decide +kernel
theorem dX10_status_1 : decode cX10_status 1 = .ok (.getfield 242, 3) := by decide +kernel
theorem dX10_status_4 : decode cX10_status 4 = .ok (.ireturn, 1) := by decide +kernel
theorem dX10_refused_0 : decode cX10_refused 0 = .ok (.aload_n 0, 1) := by decide +kernel
theorem dX10_refused_1 : decode cX10_refused 1 = .ok (.iload_n 1, 1) := by decide +kernel
theorem dX10_refused_2 : decode cX10_refused 2 = .ok (.putfield 242, 3) := by decide +kernel
theorem dX10_refused_5 : decode cX10_refused 5 = .ok (.iload_n 1, 1) := by decide +kernel
theorem dX10_refused_6 : decode cX10_refused 6 = .ok (.ireturn, 1) := by decide +kernel
theorem dX10_done_0 : decode cX10_done 0 = .ok (.aload_n 0, 1) := by decide +kernel
theorem dX10_done_1 : decode cX10_done 1 = .ok (.iconst 0, 1) := by decide +kernel
theorem dX10_done_2 : decode cX10_done 2 = .ok (.putfield 242, 3) := by decide +kernel
theorem dX10_done_5 : decode cX10_done 5 = .ok (.iload_n 1, 1) := by decide +kernel
theorem dX10_done_6 : decode cX10_done 6 = .ok (.ireturn, 1) := by decide +kernel
theorem dX10_freshIn_0 : decode cX10_freshIn 0 = .ok (.aload_n 0, 1) := by decide +kernel
theorem dX10_freshIn_1 : decode cX10_freshIn 1 = .ok (.getfield 12, 3) := by decide +kernel
theorem dX10_freshIn_4 : decode cX10_freshIn 4 = .ok (.aload_n 0, 1) := by decide +kernel
theorem dX10_freshIn_5 : decode cX10_freshIn 5 = .ok (.getfield 35, 3) := by decide +kernel
theorem dX10_freshIn_8 : decode cX10_freshIn 8 = .ok (.getfield 136, 3) := by decide +kernel
theorem dX10_freshIn_11 : decode cX10_freshIn 11 = .ok (.iload_n 1, 1) := by decide +kernel
theorem dX10_freshIn_12 : decode cX10_freshIn 12 = .ok (.iaload, 1) := by decide +kernel
theorem dX10_freshIn_13 : decode cX10_freshIn 13 = .ok (.aload_n 0, 1) := by decide +kernel
theorem dX10_freshIn_14 : decode cX10_freshIn 14 = .ok (.getfield 35, 3) := by decide +kernel
theorem dX10_freshIn_17 : decode cX10_freshIn 17 = .ok (.getfield 139, 3) := by decide +kernel
theorem dX10_freshIn_20 : decode cX10_freshIn 20 = .ok (.iload_n 1, 1) := by decide +kernel
theorem dX10_freshIn_21 : decode cX10_freshIn 21 = .ok (.iaload, 1) := by decide +kernel
theorem dX10_freshIn_22 : decode cX10_freshIn 22 = .ok (.invokevirtual 245, 3) := by decide +kernel
theorem dX10_freshIn_25 : decode cX10_freshIn 25 = .ok (.ireturn, 1) := by decide +kernel
theorem dX10_passYear_0 : decode cX10_passYear 0 = .ok (.aload_n 0, 1) := by decide +kernel
theorem dX10_passYear_1 : decode cX10_passYear 1 = .ok (.getfield 28, 3) := by decide +kernel
theorem dX10_passYear_4 : decode cX10_passYear 4 = .ok (.aload_n 0, 1) := by decide +kernel
theorem dX10_passYear_5 : decode cX10_passYear 5 = .ok (.getfield 197, 3) := by decide +kernel
theorem dX10_passYear_8 : decode cX10_passYear 8 = .ok (.aload_n 0, 1) := by decide +kernel
theorem dX10_passYear_9 : decode cX10_passYear 9 = .ok (.getfield 197, 3) := by decide +kernel
theorem dX10_passYear_12 : decode cX10_passYear 12 = .ok (.invokevirtual 149, 3) := by decide +kernel
theorem dX10_passYear_15 : decode cX10_passYear 15 = .ok (.iconst 0, 1) := by decide +kernel
theorem dX10_passYear_16 : decode cX10_passYear 16 = .ok (.istore_n 1, 1) := by decide +kernel
theorem dX10_passYear_17 : decode cX10_passYear 17 = .ok (.iload_n 1, 1) := by decide +kernel
theorem dX10_passYear_18 : decode cX10_passYear 18 = .ok (.aload_n 0, 1) := by decide +kernel
theorem dX10_passYear_19 : decode cX10_passYear 19 = .ok (.getfield 35, 3) := by decide +kernel
theorem dX10_passYear_22 : decode cX10_passYear 22 = .ok (.getfield 128, 3) := by decide +kernel
theorem dX10_passYear_25 : decode cX10_passYear 25 = .ok (.if_icmp .ge 64, 3) := by decide +kernel
theorem dX10_passYear_28 : decode cX10_passYear 28 = .ok (.aload_n 0, 1) := by decide +kernel
theorem dX10_passYear_29 : decode cX10_passYear 29 = .ok (.getfield 28, 3) := by decide +kernel
theorem dX10_passYear_32 : decode cX10_passYear 32 = .ok (.aload_n 0, 1) := by decide +kernel
theorem dX10_passYear_33 : decode cX10_passYear 33 = .ok (.iload_n 1, 1) := by decide +kernel
theorem dX10_passYear_34 : decode cX10_passYear 34 = .ok (.invokevirtual 145, 3) := by decide +kernel
theorem dX10_passYear_37 : decode cX10_passYear 37 = .ok (.invokevirtual 153, 3) := by decide +kernel
theorem dX10_passYear_40 : decode cX10_passYear 40 = .ok (.aload_n 0, 1) := by decide +kernel
theorem dX10_passYear_41 : decode cX10_passYear 41 = .ok (.getfield 74, 3) := by decide +kernel
theorem dX10_passYear_44 : decode cX10_passYear 44 = .ok (.aload_n 0, 1) := by decide +kernel
theorem dX10_passYear_45 : decode cX10_passYear 45 = .ok (.getfield 28, 3) := by decide +kernel
theorem dX10_passYear_48 : decode cX10_passYear 48 = .ok (.getfield 157, 3) := by decide +kernel
theorem dX10_passYear_51 : decode cX10_passYear 51 = .ok (.iload_n 1, 1) := by decide +kernel
theorem dX10_passYear_52 : decode cX10_passYear 52 = .ok (.aload_n 0, 1) := by decide +kernel
theorem dX10_passYear_53 : decode cX10_passYear 53 = .ok (.getfield 28, 3) := by decide +kernel
theorem dX10_passYear_56 : decode cX10_passYear 56 = .ok (.getfield 160, 3) := by decide +kernel
theorem dX10_passYear_59 : decode cX10_passYear 59 = .ok (.invokevirtual 248, 3) := by decide +kernel
theorem dX10_passYear_62 : decode cX10_passYear 62 = .ok (.aload_n 0, 1) := by decide +kernel
theorem dX10_passYear_63 : decode cX10_passYear 63 = .ok (.getfield 35, 3) := by decide +kernel
theorem dX10_passYear_66 : decode cX10_passYear 66 = .ok (.getfield 139, 3) := by decide +kernel
theorem dX10_passYear_69 : decode cX10_passYear 69 = .ok (.iload_n 1, 1) := by decide +kernel
theorem dX10_passYear_70 : decode cX10_passYear 70 = .ok (.aload_n 0, 1) := by decide +kernel
theorem dX10_passYear_71 : decode cX10_passYear 71 = .ok (.getfield 35, 3) := by decide +kernel
theorem dX10_passYear_74 : decode cX10_passYear 74 = .ok (.getfield 139, 3) := by decide +kernel
theorem dX10_passYear_77 : decode cX10_passYear 77 = .ok (.iload_n 1, 1) := by decide +kernel
theorem dX10_passYear_78 : decode cX10_passYear 78 = .ok (.iaload, 1) := by decide +kernel
theorem dX10_passYear_79 : decode cX10_passYear 79 = .ok (.invokestatic 252, 3) := by decide +kernel
theorem dX10_passYear_82 : decode cX10_passYear 82 = .ok (.iastore, 1) := by decide +kernel
theorem dX10_passYear_83 : decode cX10_passYear 83 = .ok (.iinc 1 1, 3) := by decide +kernel
theorem dX10_passYear_86 : decode cX10_passYear 86 = .ok (.goto (-69), 3) := by decide +kernel
theorem dX10_passYear_89 : decode cX10_passYear 89 = .ok (.aload_n 0, 1) := by decide +kernel
theorem dX10_passYear_90 : decode cX10_passYear 90 = .ok (.aload_n 0, 1) := by decide +kernel
theorem dX10_passYear_91 : decode cX10_passYear 91 = .ok (.getfield 197, 3) := by decide +kernel
theorem dX10_passYear_94 : decode cX10_passYear 94 = .ok (.iconst 1, 1) := by decide +kernel
theorem dX10_passYear_95 : decode cX10_passYear 95 = .ok (.iadd, 1) := by decide +kernel
theorem dX10_passYear_96 : decode cX10_passYear 96 = .ok (.bipush 39, 2) := by decide +kernel
theorem dX10_passYear_98 : decode cX10_passYear 98 = .ok (.invokestatic 255, 3) := by decide +kernel
theorem dX10_passYear_101 : decode cX10_passYear 101 = .ok (.putfield 197, 3) := by decide +kernel
theorem dX10_passYear_104 : decode cX10_passYear 104 = .ok (.return_, 1) := by decide +kernel
theorem dX10_within_0 : decode cX10_within 0 = .ok (.iload_n 1, 1) := by decide +kernel
theorem dX10_within_1 : decode cX10_within 1 = .ok (.iload_n 0, 1) := by decide +kernel
theorem dX10_within_2 : decode cX10_within 2 = .ok (.if_icmp .gt 12, 3) := by decide +kernel
theorem dX10_within_5 : decode cX10_within 5 = .ok (.iload_n 0, 1) := by decide +kernel
theorem dX10_within_6 : decode cX10_within 6 = .ok (.iload_n 2, 1) := by decide +kernel
theorem dX10_within_7 : decode cX10_within 7 = .ok (.if_icmp .gt 7, 3) := by decide +kernel
theorem dX10_within_10 : decode cX10_within 10 = .ok (.iconst 1, 1) := by decide +kernel
theorem dX10_within_11 : decode cX10_within 11 = .ok (.goto 4, 3) := by decide +kernel
theorem dX10_within_14 : decode cX10_within 14 = .ok (.iconst 0, 1) := by decide +kernel
theorem dX10_within_15 : decode cX10_within 15 = .ok (.ireturn, 1) := by decide +kernel
theorem dX10_isSort_0 : decode cX10_isSort 0 = .ok (.iload_n 0, 1) := by decide +kernel
theorem dX10_isSort_1 : decode cX10_isSort 1 = .ok (.iconst 0, 1) := by decide +kernel
theorem dX10_isSort_2 : decode cX10_isSort 2 = .ok (.iconst 3, 1) := by decide +kernel
theorem dX10_isSort_3 : decode cX10_isSort 3 = .ok (.invokestatic 85, 3) := by decide +kernel
theorem dX10_isSort_6 : decode cX10_isSort 6 = .ok (.ireturn, 1) := by decide +kernel
theorem dX10_isYear_0 : decode cX10_isYear 0 = .ok (.iload_n 0, 1) := by decide +kernel
theorem dX10_isYear_1 : decode cX10_isYear 1 = .ok (.iconst 0, 1) := by decide +kernel
theorem dX10_isYear_2 : decode cX10_isYear 2 = .ok (.bipush 39, 2) := by decide +kernel
theorem dX10_isYear_4 : decode cX10_isYear 4 = .ok (.invokestatic 85, 3) := by decide +kernel
theorem dX10_isYear_7 : decode cX10_isYear 7 = .ok (.ireturn, 1) := by decide +kernel
theorem dX10_olderThan_0 : decode cX10_olderThan 0 = .ok (.iload_n 0, 1) := by decide +kernel
theorem dX10_olderThan_1 : decode cX10_olderThan 1 = .ok (.iconst (-1), 1) := by decide +kernel
theorem dX10_olderThan_2 : decode cX10_olderThan 2 = .ok (.if_icmp .ne 7, 3) := by decide +kernel
theorem dX10_olderThan_5 : decode cX10_olderThan 5 = .ok (.iconst (-1), 1) := by decide +kernel
theorem dX10_olderThan_6 : decode cX10_olderThan 6 = .ok (.goto 11, 3) := by decide +kernel
theorem dX10_olderThan_9 : decode cX10_olderThan 9 = .ok (.iload_n 0, 1) := by decide +kernel
theorem dX10_olderThan_10 : decode cX10_olderThan 10 = .ok (.iconst 1, 1) := by decide +kernel
theorem dX10_olderThan_11 : decode cX10_olderThan 11 = .ok (.iadd, 1) := by decide +kernel
theorem dX10_olderThan_12 : decode cX10_olderThan 12 = .ok (.bipush 24, 2) := by decide +kernel
theorem dX10_olderThan_14 : decode cX10_olderThan 14 = .ok (.invokestatic 255, 3) := by decide +kernel
theorem dX10_olderThan_17 : decode cX10_olderThan 17 = .ok (.ireturn, 1) := by decide +kernel
theorem dX11_init_0 : decode cX11_init 0 = .ok (.aload_n 0, 1) := by decide +kernel
theorem dX11_init_1 : decode cX11_init 1 = .ok (.invokespecial 1, 3) := by decide +kernel
theorem dX11_init_4 : decode cX11_init 4 = .ok (.aload_n 0, 1) := by decide +kernel
theorem dX11_init_5 : decode cX11_init 5 = .ok (.bipush 25, 2) := by decide +kernel
theorem dX11_init_7 : decode cX11_init 7 = .ok (.newarray .int, 2) := by decide +kernel
theorem dX11_init_9 : decode cX11_init 9 = .ok (.putfield 7, 3) := by decide +kernel
theorem dX11_init_12 : decode cX11_init 12 = .ok (.aload_n 0, 1) := by decide +kernel
theorem dX11_init_13 : decode cX11_init 13 = .ok (.iconst 4, 1) := by decide +kernel
theorem dX11_init_14 : decode cX11_init 14 = .ok (.newarray .int, 2) := by decide +kernel
theorem dX11_init_16 : decode cX11_init 16 = .ok (.dup, 1) := by decide +kernel
theorem dX11_init_17 : decode cX11_init 17 = .ok (.iconst 0, 1) := by decide +kernel
theorem dX11_init_18 : decode cX11_init 18 = .ok (.bipush 100, 2) := by decide +kernel
theorem dX11_init_20 : decode cX11_init 20 = .ok (.iastore, 1) := by decide +kernel
theorem dX11_init_21 : decode cX11_init 21 = .ok (.dup, 1) := by decide +kernel
theorem dX11_init_22 : decode cX11_init 22 = .ok (.iconst 1, 1) := by decide +kernel
theorem dX11_init_23 : decode cX11_init 23 = .ok (.bipush 60, 2) := by decide +kernel
theorem dX11_init_25 : decode cX11_init 25 = .ok (.iastore, 1) := by decide +kernel
theorem dX11_init_26 : decode cX11_init 26 = .ok (.dup, 1) := by decide +kernel
theorem dX11_init_27 : decode cX11_init 27 = .ok (.iconst 2, 1) := by decide +kernel
theorem dX11_init_28 : decode cX11_init 28 = .ok (.bipush 35, 2) := by decide +kernel
theorem dX11_init_30 : decode cX11_init 30 = .ok (.iastore, 1) := by decide +kernel
theorem dX11_init_31 : decode cX11_init 31 = .ok (.dup, 1) := by decide +kernel
theorem dX11_init_32 : decode cX11_init 32 = .ok (.iconst 3, 1) := by decide +kernel
theorem dX11_init_33 : decode cX11_init 33 = .ok (.bipush 25, 2) := by decide +kernel
theorem dX11_init_35 : decode cX11_init 35 = .ok (.iastore, 1) := by decide +kernel
theorem dX11_init_36 : decode cX11_init 36 = .ok (.putfield 13, 3) := by decide +kernel
theorem dX11_init_39 : decode cX11_init 39 = .ok (.aload_n 0, 1) := by decide +kernel
theorem dX11_init_40 : decode cX11_init 40 = .ok (.iconst 1, 1) := by decide +kernel
theorem dX11_init_41 : decode cX11_init 41 = .ok (.putfield 16, 3) := by decide +kernel
theorem dX11_init_44 : decode cX11_init 44 = .ok (.aload_n 0, 1) := by decide +kernel
theorem dX11_init_45 : decode cX11_init 45 = .ok (.iconst 5, 1) := by decide +kernel
theorem dX11_init_46 : decode cX11_init 46 = .ok (.putfield 20, 3) := by decide +kernel
theorem dX11_init_49 : decode cX11_init 49 = .ok (.aload_n 0, 1) := by decide +kernel
theorem dX11_init_50 : decode cX11_init 50 = .ok (.sipush 300, 3) := by decide +kernel
theorem dX11_init_53 : decode cX11_init 53 = .ok (.newarray .int, 2) := by decide +kernel
theorem dX11_init_55 : decode cX11_init 55 = .ok (.putfield 23, 3) := by decide +kernel
theorem dX11_init_58 : decode cX11_init 58 = .ok (.aload_n 0, 1) := by decide +kernel
theorem dX11_init_59 : decode cX11_init 59 = .ok (.sipush 300, 3) := by decide +kernel
theorem dX11_init_62 : decode cX11_init 62 = .ok (.newarray .int, 2) := by decide +kernel
theorem dX11_init_64 : decode cX11_init 64 = .ok (.putfield 26, 3) := by decide +kernel
theorem dX11_init_67 : decode cX11_init 67 = .ok (.aload_n 0, 1) := by decide +kernel
theorem dX11_init_68 : decode cX11_init 68 = .ok (.sipush 300, 3) := by decide +kernel
theorem dX11_init_71 : decode cX11_init 71 = .ok (.newarray .int, 2) := by decide +kernel
theorem dX11_init_73 : decode cX11_init 73 = .ok (.putfield 29, 3) := by decide +kernel
theorem dX11_init_76 : decode cX11_init 76 = .ok (.aload_n 0, 1) := by decide +kernel
theorem dX11_init_77 : decode cX11_init 77 = .ok (.sipush 300, 3) := by decide +kernel
theorem dX11_init_80 : decode cX11_init 80 = .ok (.newarray .int, 2) := by decide +kernel
theorem dX11_init_82 : decode cX11_init 82 = .ok (.putfield 32, 3) := by decide +kernel
theorem dX11_init_85 : decode cX11_init 85 = .ok (.aload_n 0, 1) := by decide +kernel
theorem dX11_init_86 : decode cX11_init 86 = .ok (.sipush 160, 3) := by decide +kernel
theorem dX11_init_89 : decode cX11_init 89 = .ok (.newarray .int, 2) := by decide +kernel
theorem dX11_init_91 : decode cX11_init 91 = .ok (.putfield 35, 3) := by decide +kernel
theorem dX11_init_94 : decode cX11_init 94 = .ok (.aload_n 0, 1) := by decide +kernel
theorem dX11_init_95 : decode cX11_init 95 = .ok (.bipush 12, 2) := by decide +kernel
theorem dX11_init_97 : decode cX11_init 97 = .ok (.newarray .int, 2) := by decide +kernel
theorem dX11_init_99 : decode cX11_init 99 = .ok (.putfield 38, 3) := by decide +kernel
theorem dX11_init_102 : decode cX11_init 102 = .ok (.aload_n 0, 1) := by decide +kernel
theorem dX11_init_103 : decode cX11_init 103 = .ok (.bipush 12, 2) := by decide +kernel
theorem dX11_init_105 : decode cX11_init 105 = .ok (.newarray .int, 2) := by decide +kernel
theorem dX11_init_107 : decode cX11_init 107 = .ok (.putfield 41, 3) := by decide +kernel
theorem dX11_init_110 : decode cX11_init 110 = .ok (.aload_n 0, 1) := by decide +kernel
theorem dX11_init_111 : decode cX11_init 111 = .ok (.bipush 20, 2) := by decide +kernel
theorem dX11_init_113 : decode cX11_init 113 = .ok (.newarray .int, 2) := by decide +kernel
theorem dX11_init_115 : decode cX11_init 115 = .ok (.putfield 44, 3) := by decide +kernel
theorem dX11_init_118 : decode cX11_init 118 = .ok (.aload_n 0, 1) := by decide +kernel
theorem dX11_init_119 : decode cX11_init 119 = .ok (.bipush 20, 2) := by decide +kernel
theorem dX11_init_121 : decode cX11_init 121 = .ok (.newarray .int, 2) := by decide +kernel
theorem dX11_init_123 : decode cX11_init 123 = .ok (.putfield 47, 3) := by decide +kernel
theorem dX11_init_126 : decode cX11_init 126 = .ok (.aload_n 0, 1) := by decide +kernel
theorem dX11_init_127 : decode cX11_init 127 = .ok (.bipush 20, 2) := by decide +kernel
theorem dX11_init_129 : decode cX11_init 129 = .ok (.newarray .int, 2) := by decide +kernel
theorem dX11_init_131 : decode cX11_init 131 = .ok (.putfield 50, 3) := by decide +kernel
theorem dX11_init_134 : decode cX11_init 134 = .ok (.aload_n 0, 1) := by decide +kernel
theorem dX11_init_135 : decode cX11_init 135 = .ok (.bipush 20, 2) := by decide +kernel
theorem dX11_init_137 : decode cX11_init 137 = .ok (.newarray .int, 2) := by decide +kernel
theorem dX11_init_139 : decode cX11_init 139 = .ok (.putfield 53, 3) := by decide +kernel
theorem dX11_init_142 : decode cX11_init 142 = .ok (.aload_n 0, 1) := by decide +kernel
theorem dX11_init_143 : decode cX11_init 143 = .ok (.bipush 80, 2) := by decide +kernel
theorem dX11_init_145 : decode cX11_init 145 = .ok (.newarray .int, 2) := by decide +kernel
theorem dX11_init_147 : decode cX11_init 147 = .ok (.putfield 56, 3) := by decide +kernel
theorem dX11_init_150 : decode cX11_init 150 = .ok (.aload_n 0, 1) := by decide +kernel
theorem dX11_init_151 : decode cX11_init 151 = .ok (.sipush 200, 3) := by decide +kernel
theorem dX11_init_154 : decode cX11_init 154 = .ok (.newarray .int, 2) := by decide +kernel
theorem dX11_init_156 : decode cX11_init 156 = .ok (.putfield 59, 3) := by decide +kernel
theorem dX11_init_159 : decode cX11_init 159 = .ok (.aload_n 0, 1) := by decide +kernel
theorem dX11_init_160 : decode cX11_init 160 = .ok (.iconst (-1), 1) := by decide +kernel
theorem dX11_init_161 : decode cX11_init 161 = .ok (.putfield 62, 3) := by decide +kernel
theorem dX11_init_164 : decode cX11_init 164 = .ok (.aload_n 0, 1) := by decide +kernel
theorem dX11_init_165 : decode cX11_init 165 = .ok (.sipush 546, 3) := by decide +kernel
theorem dX11_init_168 : decode cX11_init 168 = .ok (.newarray .long, 2) := by decide +kernel
theorem dX11_init_170 : decode cX11_init 170 = .ok (.putfield 65, 3) := by decide +kernel
theorem dX11_init_173 : decode cX11_init 173 = .ok (.aload_n 0, 1) := by decide +kernel
theorem dX11_init_174 : decode cX11_init 174 = .ok (.bipush 20, 2) := by decide +kernel
theorem dX11_init_176 : decode cX11_init 176 = .ok (.newarray .int, 2) := by decide +kernel
theorem dX11_init_178 : decode cX11_init 178 = .ok (.putfield 69, 3) := by decide +kernel
theorem dX11_init_181 : decode cX11_init 181 = .ok (.aload_n 0, 1) := by decide +kernel
theorem dX11_init_182 : decode cX11_init 182 = .ok (.iconst (-1), 1) := by decide +kernel
theorem dX11_init_183 : decode cX11_init 183 = .ok (.putfield 72, 3) := by decide +kernel
theorem dX11_init_186 : decode cX11_init 186 = .ok (.aload_n 0, 1) := by decide +kernel
theorem dX11_init_187 : decode cX11_init 187 = .ok (.sipush 480, 3) := by decide +kernel
theorem dX11_init_190 : decode cX11_init 190 = .ok (.newarray .int, 2) := by decide +kernel
theorem dX11_init_192 : decode cX11_init 192 = .ok (.putfield 75, 3) := by decide +kernel
theorem dX11_init_195 : decode cX11_init 195 = .ok (.aload_n 0, 1) := by decide +kernel
theorem dX11_init_196 : decode cX11_init 196 = .ok (.sipush 480, 3) := by decide +kernel
theorem dX11_init_199 : decode cX11_init 199 = .ok (.newarray .int, 2) := by decide +kernel
theorem dX11_init_201 : decode cX11_init 201 = .ok (.putfield 78, 3) := by decide +kernel
theorem dX11_init_204 : decode cX11_init 204 = .ok (.aload_n 0, 1) := by decide +kernel
theorem dX11_init_205 : decode cX11_init 205 = .ok (.sipush 480, 3) := by decide +kernel
theorem dX11_init_208 : decode cX11_init 208 = .ok (.newarray .int, 2) := by decide +kernel
theorem dX11_init_210 : decode cX11_init 210 = .ok (.putfield 81, 3) := by decide +kernel
theorem dX11_init_213 : decode cX11_init 213 = .ok (.aload_n 0, 1) := by decide +kernel
theorem dX11_init_214 : decode cX11_init 214 = .ok (.bipush 60, 2) := by decide +kernel
theorem dX11_init_216 : decode cX11_init 216 = .ok (.newarray .int, 2) := by decide +kernel
theorem dX11_init_218 : decode cX11_init 218 = .ok (.putfield 84, 3) := by decide +kernel
theorem dX11_init_221 : decode cX11_init 221 = .ok (.aload_n 0, 1) := by decide +kernel
theorem dX11_init_222 : decode cX11_init 222 = .ok (.bipush 60, 2) := by decide +kernel
theorem dX11_init_224 : decode cX11_init 224 = .ok (.newarray .int, 2) := by decide +kernel
theorem dX11_init_226 : decode cX11_init 226 = .ok (.putfield 87, 3) := by decide +kernel
theorem dX11_init_229 : decode cX11_init 229 = .ok (.aload_n 0, 1) := by decide +kernel
theorem dX11_init_230 : decode cX11_init 230 = .ok (.bipush 60, 2) := by decide +kernel
theorem dX11_init_232 : decode cX11_init 232 = .ok (.newarray .int, 2) := by decide +kernel
theorem dX11_init_234 : decode cX11_init 234 = .ok (.putfield 90, 3) := by decide +kernel
theorem dX11_init_237 : decode cX11_init 237 = .ok (.aload_n 0, 1) := by decide +kernel
theorem dX11_init_238 : decode cX11_init 238 = .ok (.bipush 60, 2) := by decide +kernel
theorem dX11_init_240 : decode cX11_init 240 = .ok (.newarray .int, 2) := by decide +kernel
theorem dX11_init_242 : decode cX11_init 242 = .ok (.putfield 93, 3) := by decide +kernel
theorem dX11_init_245 : decode cX11_init 245 = .ok (.aload_n 0, 1) := by decide +kernel
theorem dX11_init_246 : decode cX11_init 246 = .ok (.bipush 60, 2) := by decide +kernel
theorem dX11_init_248 : decode cX11_init 248 = .ok (.newarray .int, 2) := by decide +kernel
theorem dX11_init_250 : decode cX11_init 250 = .ok (.putfield 96, 3) := by decide +kernel
theorem dX11_init_253 : decode cX11_init 253 = .ok (.aload_n 0, 1) := by decide +kernel
theorem dX11_init_254 : decode cX11_init 254 = .ok (.sipush 720, 3) := by decide +kernel
theorem dX11_init_257 : decode cX11_init 257 = .ok (.newarray .int, 2) := by decide +kernel
theorem dX11_init_259 : decode cX11_init 259 = .ok (.putfield 99, 3) := by decide +kernel
theorem dX11_init_262 : decode cX11_init 262 = .ok (.return_, 1) := by decide +kernel
theorem dX11_in_0 : decode cX11_in 0 = .ok (.lload_n 0, 1) := by decide +kernel
theorem dX11_in_1 : decode cX11_in 1 = .ok (.lload_n 2, 1) := by decide +kernel
theorem dX11_in_2 : decode cX11_in 2 = .ok (.lcmp, 1) := by decide +kernel
theorem dX11_in_3 : decode cX11_in 3 = .ok (.ifCond .lt 14, 3) := by decide +kernel
theorem dX11_in_6 : decode cX11_in 6 = .ok (.lload_n 0, 1) := by decide +kernel
theorem dX11_in_7 : decode cX11_in 7 = .ok (.lload 4, 2) := by decide +kernel
theorem dX11_in_9 : decode cX11_in 9 = .ok (.lcmp, 1) := by decide +kernel
theorem dX11_in_10 : decode cX11_in 10 = .ok (.ifCond .gt 7, 3) := by decide +kernel
theorem dX11_in_13 : decode cX11_in 13 = .ok (.iconst 1, 1) := by decide +kernel
theorem dX11_in_14 : decode cX11_in 14 = .ok (.goto 4, 3) := by decide +kernel
theorem dX11_in_17 : decode cX11_in 17 = .ok (.iconst 0, 1) := by decide +kernel
theorem dX11_in_18 : decode cX11_in 18 = .ok (.ireturn, 1) := by decide +kernel
theorem dX11_told_0 : decode cX11_told 0 = .ok (.aload_n 0, 1) := by decide +kernel
theorem dX11_told_1 : decode cX11_told 1 = .ok (.iload_n 1, 1) := by decide +kernel
theorem dX11_told_2 : decode cX11_told 2 = .ok (.ifCond .ge 7, 3) := by decide +kernel
theorem dX11_told_5 : decode cX11_told 5 = .ok (.iload_n 1, 1) := by decide +kernel
theorem dX11_told_6 : decode cX11_told 6 = .ok (.goto 4, 3) := by decide +kernel
theorem dX11_told_9 : decode cX11_told 9 = .ok (.iconst 0, 1) := by decide +kernel
theorem dX11_told_10 : decode cX11_told 10 = .ok (.putfield 105, 3) := by decide +kernel
theorem dX11_told_13 : decode cX11_told 13 = .ok (.iload_n 1, 1) := by decide +kernel
theorem dX11_told_14 : decode cX11_told 14 = .ok (.ireturn, 1) := by decide +kernel
theorem dX11_isYear_0 : decode cX11_isYear 0 = .ok (.iload_n 0, 1) := by decide +kernel
theorem dX11_isYear_1 : decode cX11_isYear 1 = .ok (.i2l, 1) := by decide +kernel
theorem dX11_isYear_2 : decode cX11_isYear 2 = .ok (.lconst 0, 1) := by decide +kernel
theorem dX11_isYear_3 : decode cX11_isYear 3 = .ok (.ldc2_w 108, 3) := by decide +kernel
theorem dX11_isYear_6 : decode cX11_isYear 6 = .ok (.invokestatic 110, 3) := by decide +kernel
theorem dX11_isYear_9 : decode cX11_isYear 9 = .ok (.ireturn, 1) := by decide +kernel
theorem dX11_isSort_0 : decode cX11_isSort 0 = .ok (.iload_n 0, 1) := by decide +kernel
theorem dX11_isSort_1 : decode cX11_isSort 1 = .ok (.i2l, 1) := by decide +kernel
theorem dX11_isSort_2 : decode cX11_isSort 2 = .ok (.lconst 0, 1) := by decide +kernel
theorem dX11_isSort_3 : decode cX11_isSort 3 = .ok (.ldc2_w 114, 3) := by decide +kernel
theorem dX11_isSort_6 : decode cX11_isSort 6 = .ok (.invokestatic 110, 3) := by decide +kernel
theorem dX11_isSort_9 : decode cX11_isSort 9 = .ok (.ireturn, 1) := by decide +kernel
theorem dX11_bears_0 : decode cX11_bears 0 = .ok (.aload_n 0, 1) := by decide +kernel
theorem dX11_bears_1 : decode cX11_bears 1 = .ok (.iconst 0, 1) := by decide +kernel
theorem dX11_bears_2 : decode cX11_bears 2 = .ok (.putfield 102, 3) := by decide +kernel
theorem dX11_bears_5 : decode cX11_bears 5 = .ok (.iload_n 1, 1) := by decide +kernel
theorem dX11_bears_6 : decode cX11_bears 6 = .ok (.i2l, 1) := by decide +kernel
theorem dX11_bears_7 : decode cX11_bears 7 = .ok (.lconst 0, 1) := by decide +kernel
theorem dX11_bears_8 : decode cX11_bears 8 = .ok (.ldc2_w 116, 3) := by decide +kernel
theorem dX11_bears_11 : decode cX11_bears 11 = .ok (.invokestatic 110, 3) := by decide +kernel
theorem dX11_bears_14 : decode cX11_bears 14 = .ok (.ifCond .eq 15, 3) := by decide +kernel
theorem dX11_bears_17 : decode cX11_bears 17 = .ok (.iload_n 2, 1) := by decide +kernel
theorem dX11_bears_18 : decode cX11_bears 18 = .ok (.i2l, 1) := by decide +kernel
theorem dX11_bears_19 : decode cX11_bears 19 = .ok (.lconst 0, 1) := by decide +kernel
theorem dX11_bears_20 : decode cX11_bears 20 = .ok (.ldc2_w 118, 3) := by decide +kernel
theorem dX11_bears_23 : decode cX11_bears 23 = .ok (.invokestatic 110, 3) := by decide +kernel
theorem dX11_bears_26 : decode cX11_bears 26 = .ok (.ifCond .ne 9, 3) := by decide +kernel
theorem dX11_bears_29 : decode cX11_bears 29 = .ok (.aload_n 0, 1) := by decide +kernel
theorem dX11_bears_30 : decode cX11_bears 30 = .ok (.iconst (-1), 1) := by decide +kernel
theorem dX11_bears_31 : decode cX11_bears 31 = .ok (.invokevirtual 120, 3) := by decide +kernel
theorem dX11_bears_34 : decode cX11_bears 34 = .ok (.ireturn, 1) := by decide +kernel
theorem dX11_bears_35 : decode cX11_bears 35 = .ok (.aload_n 0, 1) := by decide +kernel
theorem dX11_bears_36 : decode cX11_bears 36 = .ok (.getfield 7, 3) := by decide +kernel
theorem dX11_bears_39 : decode cX11_bears 39 = .ok (.iload_n 1, 1) := by decide +kernel
theorem dX11_bears_40 : decode cX11_bears 40 = .ok (.iload_n 2, 1) := by decide +kernel
theorem dX11_bears_41 : decode cX11_bears 41 = .ok (.iastore, 1) := by decide +kernel
theorem dX11_bears_42 : decode cX11_bears 42 = .ok (.aload_n 0, 1) := by decide +kernel
theorem dX11_bears_43 : decode cX11_bears 43 = .ok (.iconst 0, 1) := by decide +kernel
theorem dX11_bears_44 : decode cX11_bears 44 = .ok (.invokevirtual 120, 3) := by decide +kernel
theorem dX11_bears_47 : decode cX11_bears 47 = .ok (.ireturn, 1) := by decide +kernel
theorem dX11_ratio_0 : decode cX11_ratio 0 = .ok (.aload_n 0, 1) := by decide +kernel
theorem dX11_ratio_1 : decode cX11_ratio 1 = .ok (.iconst 0, 1) := by decide +kernel
theorem dX11_ratio_2 : decode cX11_ratio 2 = .ok (.putfield 102, 3) := by decide +kernel
theorem dX11_ratio_5 : decode cX11_ratio 5 = .ok (.iload_n 1, 1) := by decide +kernel
theorem dX11_ratio_6 : decode cX11_ratio 6 = .ok (.invokestatic 124, 3) := by decide +kernel
theorem dX11_ratio_9 : decode cX11_ratio 9 = .ok (.ifCond .eq 15, 3) := by decide +kernel
theorem dX11_ratio_12 : decode cX11_ratio 12 = .ok (.iload_n 2, 1) := by decide +kernel
theorem dX11_ratio_13 : decode cX11_ratio 13 = .ok (.i2l, 1) := by decide +kernel
theorem dX11_ratio_14 : decode cX11_ratio 14 = .ok (.lconst 1, 1) := by decide +kernel
theorem dX11_ratio_15 : decode cX11_ratio 15 = .ok (.ldc2_w 128, 3) := by decide +kernel
theorem dX11_ratio_18 : decode cX11_ratio 18 = .ok (.invokestatic 110, 3) := by decide +kernel
theorem dX11_ratio_21 : decode cX11_ratio 21 = .ok (.ifCond .ne 9, 3) := by decide +kernel
theorem dX11_ratio_24 : decode cX11_ratio 24 = .ok (.aload_n 0, 1) := by decide +kernel
theorem dX11_ratio_25 : decode cX11_ratio 25 = .ok (.iconst (-1), 1) := by decide +kernel
theorem dX11_ratio_26 : decode cX11_ratio 26 = .ok (.invokevirtual 120, 3) := by decide +kernel
theorem dX11_ratio_29 : decode cX11_ratio 29 = .ok (.ireturn, 1) := by decide +kernel
theorem dX11_ratio_30 : decode cX11_ratio 30 = .ok (.aload_n 0, 1) := by decide +kernel
theorem dX11_ratio_31 : decode cX11_ratio 31 = .ok (.getfield 13, 3) := by decide +kernel
theorem dX11_ratio_34 : decode cX11_ratio 34 = .ok (.iload_n 1, 1) := by decide +kernel
theorem dX11_ratio_35 : decode cX11_ratio 35 = .ok (.iload_n 2, 1) := by decide +kernel
theorem dX11_ratio_36 : decode cX11_ratio 36 = .ok (.iastore, 1) := by decide +kernel
theorem dX11_ratio_37 : decode cX11_ratio 37 = .ok (.aload_n 0, 1) := by decide +kernel
theorem dX11_ratio_38 : decode cX11_ratio 38 = .ok (.iconst 0, 1) := by decide +kernel
theorem dX11_ratio_39 : decode cX11_ratio 39 = .ok (.invokevirtual 120, 3) := by decide +kernel
theorem dX11_ratio_42 : decode cX11_ratio 42 = .ok (.ireturn, 1) := by decide +kernel
theorem dX11_price_0 : decode cX11_price 0 = .ok (.aload_n 0, 1) := by decide +kernel
theorem dX11_price_1 : decode cX11_price 1 = .ok (.iconst 0, 1) := by decide +kernel
theorem dX11_price_2 : decode cX11_price 2 = .ok (.putfield 102, 3) := by decide +kernel
theorem dX11_price_5 : decode cX11_price 5 = .ok (.iload_n 1, 1) := by decide +kernel
theorem dX11_price_6 : decode cX11_price 6 = .ok (.invokestatic 124, 3) := by decide +kernel
theorem dX11_price_9 : decode cX11_price 9 = .ok (.ifCond .eq 30, 3) := by decide +kernel
theorem dX11_price_12 : decode cX11_price 12 = .ok (.iload_n 2, 1) := by decide +kernel
theorem dX11_price_13 : decode cX11_price 13 = .ok (.invokestatic 130, 3) := by decide +kernel
theorem dX11_price_16 : decode cX11_price 16 = .ok (.ifCond .eq 23, 3) := by decide +kernel
theorem dX11_price_19 : decode cX11_price 19 = .ok (.iload_n 3, 1) := by decide +kernel
theorem dX11_price_20 : decode cX11_price 20 = .ok (.i2l, 1) := by decide +kernel
theorem dX11_price_21 : decode cX11_price 21 = .ok (.lconst 0, 1) := by decide +kernel
theorem dX11_price_22 : decode cX11_price 22 = .ok (.ldc2_w 133, 3) := by decide +kernel
theorem dX11_price_25 : decode cX11_price 25 = .ok (.invokestatic 110, 3) := by decide +kernel
theorem dX11_price_28 : decode cX11_price 28 = .ok (.ifCond .eq 11, 3) := by decide +kernel
theorem dX11_price_31 : decode cX11_price 31 = .ok (.iload 4, 2) := by decide +kernel
theorem dX11_price_33 : decode cX11_price 33 = .ok (.invokestatic 130, 3) := by decide +kernel
theorem dX11_price_36 : decode cX11_price 36 = .ok (.ifCond .ne 9, 3) := by decide +kernel
theorem dX11_price_39 : decode cX11_price 39 = .ok (.aload_n 0, 1) := by decide +kernel
theorem dX11_price_40 : decode cX11_price 40 = .ok (.iconst (-1), 1) := by decide +kernel
theorem dX11_price_41 : decode cX11_price 41 = .ok (.invokevirtual 120, 3) := by decide +kernel
theorem dX11_price_44 : decode cX11_price 44 = .ok (.ireturn, 1) := by decide +kernel
theorem dX11_price_45 : decode cX11_price 45 = .ok (.aload_n 0, 1) := by decide +kernel
theorem dX11_price_46 : decode cX11_price 46 = .ok (.getfield 135, 3) := by decide +kernel
theorem dX11_price_49 : decode cX11_price 49 = .ok (.sipush 300, 3) := by decide +kernel
theorem dX11_price_52 : decode cX11_price 52 = .ok (.if_icmp .ne 10, 3) := by decide +kernel
theorem dX11_price_55 : decode cX11_price 55 = .ok (.aload_n 0, 1) := by decide +kernel
theorem dX11_price_56 : decode cX11_price 56 = .ok (.bipush (-5), 2) := by decide +kernel
theorem dX11_price_58 : decode cX11_price 58 = .ok (.invokevirtual 120, 3) := by decide +kernel
theorem dX11_price_61 : decode cX11_price 61 = .ok (.ireturn, 1) := by decide +kernel
theorem dX11_price_62 : decode cX11_price 62 = .ok (.aload_n 0, 1) := by decide +kernel
theorem dX11_price_63 : decode cX11_price 63 = .ok (.getfield 23, 3) := by decide +kernel
theorem dX11_price_66 : decode cX11_price 66 = .ok (.aload_n 0, 1) := by decide +kernel
theorem dX11_price_67 : decode cX11_price 67 = .ok (.getfield 135, 3) := by decide +kernel
theorem dX11_price_70 : decode cX11_price 70 = .ok (.iload_n 1, 1) := by decide +kernel
theorem dX11_price_71 : decode cX11_price 71 = .ok (.iastore, 1) := by decide +kernel
theorem dX11_price_72 : decode cX11_price 72 = .ok (.aload_n 0, 1) := by decide +kernel
theorem dX11_price_73 : decode cX11_price 73 = .ok (.getfield 26, 3) := by decide +kernel
theorem dX11_price_76 : decode cX11_price 76 = .ok (.aload_n 0, 1) := by decide +kernel
theorem dX11_price_77 : decode cX11_price 77 = .ok (.getfield 135, 3) := by decide +kernel
theorem dX11_price_80 : decode cX11_price 80 = .ok (.iload_n 2, 1) := by decide +kernel
theorem dX11_price_81 : decode cX11_price 81 = .ok (.iastore, 1) := by decide +kernel
theorem dX11_price_82 : decode cX11_price 82 = .ok (.aload_n 0, 1) := by decide +kernel
theorem dX11_price_83 : decode cX11_price 83 = .ok (.getfield 29, 3) := by decide +kernel
theorem dX11_price_86 : decode cX11_price 86 = .ok (.aload_n 0, 1) := by decide +kernel
theorem dX11_price_87 : decode cX11_price 87 = .ok (.getfield 135, 3) := by decide +kernel
theorem dX11_price_90 : decode cX11_price 90 = .ok (.iload_n 3, 1) := by decide +kernel
theorem dX11_price_91 : decode cX11_price 91 = .ok (.iastore, 1) := by decide +kernel
theorem dX11_price_92 : decode cX11_price 92 = .ok (.aload_n 0, 1) := by decide +kernel
theorem dX11_price_93 : decode cX11_price 93 = .ok (.getfield 32, 3) := by decide +kernel
theorem dX11_price_96 : decode cX11_price 96 = .ok (.aload_n 0, 1) := by decide +kernel
theorem dX11_price_97 : decode cX11_price 97 = .ok (.getfield 135, 3) := by decide +kernel
theorem dX11_price_100 : decode cX11_price 100 = .ok (.iload 4, 2) := by decide +kernel
theorem dX11_price_102 : decode cX11_price 102 = .ok (.iastore, 1) := by decide +kernel
theorem dX11_price_103 : decode cX11_price 103 = .ok (.aload_n 0, 1) := by decide +kernel
theorem dX11_price_104 : decode cX11_price 104 = .ok (.dup, 1) := by decide +kernel
theorem dX11_price_105 : decode cX11_price 105 = .ok (.getfield 135, 3) := by decide +kernel
theorem dX11_price_108 : decode cX11_price 108 = .ok (.iconst 1, 1) := by decide +kernel
theorem dX11_price_109 : decode cX11_price 109 = .ok (.iadd, 1) := by decide +kernel
theorem dX11_price_110 : decode cX11_price 110 = .ok (.putfield 135, 3) := by decide +kernel
theorem dX11_price_113 : decode cX11_price 113 = .ok (.aload_n 0, 1) := by decide +kernel
theorem dX11_price_114 : decode cX11_price 114 = .ok (.aload_n 0, 1) := by decide +kernel
theorem dX11_price_115 : decode cX11_price 115 = .ok (.getfield 135, 3) := by decide +kernel
theorem dX11_price_118 : decode cX11_price 118 = .ok (.invokevirtual 120, 3) := by decide +kernel
theorem dX11_price_121 : decode cX11_price 121 = .ok (.ireturn, 1) := by decide +kernel
theorem dX11_findPrices_0 : decode cX11_findPrices 0 = .ok (.iconst 0, 1) := by decide +kernel
theorem dX11_findPrices_1 : decode cX11_findPrices 1 = .ok (.istore_n 2, 1) := by decide +kernel
theorem dX11_findPrices_2 : decode cX11_findPrices 2 = .ok (.iload_n 2, 1) := by decide +kernel
theorem dX11_findPrices_3 : decode cX11_findPrices 3 = .ok (.sipush 160, 3) := by decide +kernel
theorem dX11_findPrices_6 : decode cX11_findPrices 6 = .ok (.if_icmp .ge 16, 3) := by decide +kernel
theorem dX11_findPrices_9 : decode cX11_findPrices 9 = .ok (.aload_n 0, 1) := by decide +kernel
theorem dX11_findPrices_10 : decode cX11_findPrices 10 = .ok (.getfield 35, 3) := by decide +kernel
theorem dX11_findPrices_13 : decode cX11_findPrices 13 = .ok (.iload_n 2, 1) := by decide +kernel
theorem dX11_findPrices_14 : decode cX11_findPrices 14 = .ok (.iconst (-1), 1) := by decide +kernel
theorem dX11_findPrices_15 : decode cX11_findPrices 15 = .ok (.iastore, 1) := by decide +kernel
theorem dX11_findPrices_16 : decode cX11_findPrices 16 = .ok (.iinc 2 1, 3) := by decide +kernel
theorem dX11_findPrices_19 : decode cX11_findPrices 19 = .ok (.goto (-17), 3) := by decide +kernel
theorem dX11_findPrices_22 : decode cX11_findPrices 22 = .ok (.iconst 0, 1) := by decide +kernel
theorem dX11_findPrices_23 : decode cX11_findPrices 23 = .ok (.istore_n 2, 1) := by decide +kernel
theorem dX11_findPrices_24 : decode cX11_findPrices 24 = .ok (.iload_n 2, 1) := by decide +kernel
theorem dX11_findPrices_25 : decode cX11_findPrices 25 = .ok (.aload_n 0, 1) := by decide +kernel
theorem dX11_findPrices_26 : decode cX11_findPrices 26 = .ok (.getfield 135, 3) := by decide +kernel
theorem dX11_findPrices_29 : decode cX11_findPrices 29 = .ok (.if_icmp .ge 46, 3) := by decide +kernel
theorem dX11_findPrices_32 : decode cX11_findPrices 32 = .ok (.aload_n 0, 1) := by decide +kernel
theorem dX11_findPrices_33 : decode cX11_findPrices 33 = .ok (.getfield 32, 3) := by decide +kernel
theorem dX11_findPrices_36 : decode cX11_findPrices 36 = .ok (.iload_n 2, 1) := by decide +kernel
theorem dX11_findPrices_37 : decode cX11_findPrices 37 = .ok (.iaload, 1) := by decide +kernel
theorem dX11_findPrices_38 : decode cX11_findPrices 38 = .ok (.iload_n 1, 1) := by decide +kernel
theorem dX11_findPrices_39 : decode cX11_findPrices 39 = .ok (.if_icmp .gt 30, 3) := by decide +kernel
theorem dX11_findPrices_42 : decode cX11_findPrices 42 = .ok (.aload_n 0, 1) := by decide +kernel
theorem dX11_findPrices_43 : decode cX11_findPrices 43 = .ok (.getfield 35, 3) := by decide +kernel
theorem dX11_findPrices_46 : decode cX11_findPrices 46 = .ok (.bipush 40, 2) := by decide +kernel
theorem dX11_findPrices_48 : decode cX11_findPrices 48 = .ok (.aload_n 0, 1) := by decide +kernel
theorem dX11_findPrices_49 : decode cX11_findPrices 49 = .ok (.getfield 23, 3) := by decide +kernel
theorem dX11_findPrices_52 : decode cX11_findPrices 52 = .ok (.iload_n 2, 1) := by decide +kernel
theorem dX11_findPrices_53 : decode cX11_findPrices 53 = .ok (.iaload, 1) := by decide +kernel
theorem dX11_findPrices_54 : decode cX11_findPrices 54 = .ok (.imul, 1) := by decide +kernel
theorem dX11_findPrices_55 : decode cX11_findPrices 55 = .ok (.aload_n 0, 1) := by decide +kernel
theorem dX11_findPrices_56 : decode cX11_findPrices 56 = .ok (.getfield 26, 3) := by decide +kernel
theorem dX11_findPrices_59 : decode cX11_findPrices 59 = .ok (.iload_n 2, 1) := by decide +kernel
theorem dX11_findPrices_60 : decode cX11_findPrices 60 = .ok (.iaload, 1) := by decide +kernel
theorem dX11_findPrices_61 : decode cX11_findPrices 61 = .ok (.iadd, 1) := by decide +kernel
theorem dX11_findPrices_62 : decode cX11_findPrices 62 = .ok (.aload_n 0, 1) := by decide +kernel
theorem dX11_findPrices_63 : decode cX11_findPrices 63 = .ok (.getfield 29, 3) := by decide +kernel
theorem dX11_findPrices_66 : decode cX11_findPrices 66 = .ok (.iload_n 2, 1) := by decide +kernel
theorem dX11_findPrices_67 : decode cX11_findPrices 67 = .ok (.iaload, 1) := by decide +kernel
theorem dX11_findPrices_68 : decode cX11_findPrices 68 = .ok (.iastore, 1) := by decide +kernel
theorem dX11_findPrices_69 : decode cX11_findPrices 69 = .ok (.iinc 2 1, 3) := by decide +kernel
theorem dX11_findPrices_72 : decode cX11_findPrices 72 = .ok (.goto (-48), 3) := by decide +kernel
theorem dX11_findPrices_75 : decode cX11_findPrices 75 = .ok (.iconst 0, 1) := by decide +kernel
theorem dX11_findPrices_76 : decode cX11_findPrices 76 = .ok (.istore_n 2, 1) := by decide +kernel
theorem dX11_findPrices_77 : decode cX11_findPrices 77 = .ok (.iload_n 2, 1) := by decide +kernel
theorem dX11_findPrices_78 : decode cX11_findPrices 78 = .ok (.iconst 4, 1) := by decide +kernel
theorem dX11_findPrices_79 : decode cX11_findPrices 79 = .ok (.if_icmp .ge 83, 3) := by decide +kernel
theorem dX11_findPrices_82 : decode cX11_findPrices 82 = .ok (.iconst 0, 1) := by decide +kernel
theorem dX11_findPrices_83 : decode cX11_findPrices 83 = .ok (.istore_n 3, 1) := by decide +kernel
theorem dX11_findPrices_84 : decode cX11_findPrices 84 = .ok (.iconst 0, 1) := by decide +kernel
theorem dX11_findPrices_85 : decode cX11_findPrices 85 = .ok (.istore 4, 2) := by decide +kernel
theorem dX11_findPrices_87 : decode cX11_findPrices 87 = .ok (.iload 4, 2) := by decide +kernel
theorem dX11_findPrices_89 : decode cX11_findPrices 89 = .ok (.bipush 40, 2) := by decide +kernel
theorem dX11_findPrices_91 : decode cX11_findPrices 91 = .ok (.if_icmp .ge 65, 3) := by decide +kernel
theorem dX11_findPrices_94 : decode cX11_findPrices 94 = .ok (.aload_n 0, 1) := by decide +kernel
theorem dX11_findPrices_95 : decode cX11_findPrices 95 = .ok (.getfield 35, 3) := by decide +kernel
theorem dX11_findPrices_98 : decode cX11_findPrices 98 = .ok (.bipush 40, 2) := by decide +kernel
theorem dX11_findPrices_100 : decode cX11_findPrices 100 = .ok (.iload_n 2, 1) := by decide +kernel
theorem dX11_findPrices_101 : decode cX11_findPrices 101 = .ok (.imul, 1) := by decide +kernel
theorem dX11_findPrices_102 : decode cX11_findPrices 102 = .ok (.iload 4, 2) := by decide +kernel
theorem dX11_findPrices_104 : decode cX11_findPrices 104 = .ok (.iadd, 1) := by decide +kernel
theorem dX11_findPrices_105 : decode cX11_findPrices 105 = .ok (.aload_n 0, 1) := by decide +kernel
theorem dX11_findPrices_106 : decode cX11_findPrices 106 = .ok (.getfield 35, 3) := by decide +kernel
theorem dX11_findPrices_109 : decode cX11_findPrices 109 = .ok (.bipush 40, 2) := by decide +kernel
theorem dX11_findPrices_111 : decode cX11_findPrices 111 = .ok (.iload_n 2, 1) := by decide +kernel
theorem dX11_findPrices_112 : decode cX11_findPrices 112 = .ok (.imul, 1) := by decide +kernel
theorem dX11_findPrices_113 : decode cX11_findPrices 113 = .ok (.iload 4, 2) := by decide +kernel
theorem dX11_findPrices_115 : decode cX11_findPrices 115 = .ok (.iadd, 1) := by decide +kernel
theorem dX11_findPrices_116 : decode cX11_findPrices 116 = .ok (.iaload, 1) := by decide +kernel
theorem dX11_findPrices_117 : decode cX11_findPrices 117 = .ok (.ifCond .ge 7, 3) := by decide +kernel
theorem dX11_findPrices_120 : decode cX11_findPrices 120 = .ok (.iload_n 3, 1) := by decide +kernel
theorem dX11_findPrices_121 : decode cX11_findPrices 121 = .ok (.goto 15, 3) := by decide +kernel
theorem dX11_findPrices_124 : decode cX11_findPrices 124 = .ok (.aload_n 0, 1) := by decide +kernel
theorem dX11_findPrices_125 : decode cX11_findPrices 125 = .ok (.getfield 35, 3) := by decide +kernel
theorem dX11_findPrices_128 : decode cX11_findPrices 128 = .ok (.bipush 40, 2) := by decide +kernel
theorem dX11_findPrices_130 : decode cX11_findPrices 130 = .ok (.iload_n 2, 1) := by decide +kernel
theorem dX11_findPrices_131 : decode cX11_findPrices 131 = .ok (.imul, 1) := by decide +kernel
theorem dX11_findPrices_132 : decode cX11_findPrices 132 = .ok (.iload 4, 2) := by decide +kernel
theorem dX11_findPrices_134 : decode cX11_findPrices 134 = .ok (.iadd, 1) := by decide +kernel
theorem dX11_findPrices_135 : decode cX11_findPrices 135 = .ok (.iaload, 1) := by decide +kernel
theorem dX11_findPrices_136 : decode cX11_findPrices 136 = .ok (.iastore, 1) := by decide +kernel
theorem dX11_findPrices_137 : decode cX11_findPrices 137 = .ok (.aload_n 0, 1) := by decide +kernel
theorem dX11_findPrices_138 : decode cX11_findPrices 138 = .ok (.getfield 35, 3) := by decide +kernel
theorem dX11_findPrices_141 : decode cX11_findPrices 141 = .ok (.bipush 40, 2) := by decide +kernel
theorem dX11_findPrices_143 : decode cX11_findPrices 143 = .ok (.iload_n 2, 1) := by decide +kernel
theorem dX11_findPrices_144 : decode cX11_findPrices 144 = .ok (.imul, 1) := by decide +kernel
theorem dX11_findPrices_145 : decode cX11_findPrices 145 = .ok (.iload 4, 2) := by decide +kernel
theorem dX11_findPrices_147 : decode cX11_findPrices 147 = .ok (.iadd, 1) := by decide +kernel
theorem dX11_findPrices_148 : decode cX11_findPrices 148 = .ok (.iaload, 1) := by decide +kernel
theorem dX11_findPrices_149 : decode cX11_findPrices 149 = .ok (.istore_n 3, 1) := by decide +kernel
theorem dX11_findPrices_150 : decode cX11_findPrices 150 = .ok (.iinc 4 1, 3) := by decide +kernel
theorem dX11_findPrices_153 : decode cX11_findPrices 153 = .ok (.goto (-66), 3) := by decide +kernel
theorem dX11_findPrices_156 : decode cX11_findPrices 156 = .ok (.iinc 2 1, 3) := by decide +kernel
