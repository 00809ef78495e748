theorem dX8_shoot_45 : decode cX8_shoot 45 = .ok (.aload_n 0, 1) := by decide +kernel
theorem dX8_shoot_46 : decode cX8_shoot 46 = .ok (.getfield 19, 3) := by decide +kernel
theorem dX8_shoot_49 : decode cX8_shoot 49 = .ok (.getfield 72, 3) := by decide +kernel
theorem dX8_shoot_52 : decode cX8_shoot 52 = .ok (.invokevirtual 186, 3) := by decide +kernel
theorem dX8_shoot_55 : decode cX8_shoot 55 = .ok (.istore 4, 2) := by decide +kernel
theorem dX8_shoot_57 : decode cX8_shoot 57 = .ok (.iload_n 3, 1) := by decide +kernel
theorem dX8_shoot_58 : decode cX8_shoot 58 = .ok (.iconst 1, 1) := by decide +kernel
theorem dX8_shoot_59 : decode cX8_shoot 59 = .ok (.if_icmp .ne 9, 3) := by decide +kernel
theorem dX8_shoot_62 : decode cX8_shoot 62 = .ok (.iload 4, 2) := by decide +kernel
theorem dX8_shoot_64 : decode cX8_shoot 64 = .ok (.invokestatic 153, 3) := by decide +kernel
theorem dX8_shoot_67 : decode cX8_shoot 67 = .ok (.ireturn, 1) := by decide +kernel
theorem dX8_shoot_68 : decode cX8_shoot 68 = .ok (.iload 4, 2) := by decide +kernel
theorem dX8_shoot_70 : decode cX8_shoot 70 = .ok (.ifCond .ne 8, 3) := by decide +kernel
theorem dX8_shoot_73 : decode cX8_shoot 73 = .ok (.bipush (-6), 2) := by decide +kernel
theorem dX8_shoot_75 : decode cX8_shoot 75 = .ok (.goto 8, 3) := by decide +kernel
theorem dX8_shoot_78 : decode cX8_shoot 78 = .ok (.iload 4, 2) := by decide +kernel
theorem dX8_shoot_80 : decode cX8_shoot 80 = .ok (.invokestatic 189, 3) := by decide +kernel
theorem dX8_shoot_83 : decode cX8_shoot 83 = .ok (.ireturn, 1) := by decide +kernel
theorem dX8_stair_0 : decode cX8_stair 0 = .ok (.iload_n 1, 1) := by decide +kernel
theorem dX8_stair_1 : decode cX8_stair 1 = .ok (.iconst 1, 1) := by decide +kernel
theorem dX8_stair_2 : decode cX8_stair 2 = .ok (.iconst 3, 1) := by decide +kernel
theorem dX8_stair_3 : decode cX8_stair 3 = .ok (.invokestatic 45, 3) := by decide +kernel
theorem dX8_stair_6 : decode cX8_stair 6 = .ok (.ifCond .eq 12, 3) := by decide +kernel
theorem dX8_stair_9 : decode cX8_stair 9 = .ok (.iload_n 2, 1) := by decide +kernel
theorem dX8_stair_10 : decode cX8_stair 10 = .ok (.iconst 1, 1) := by decide +kernel
theorem dX8_stair_11 : decode cX8_stair 11 = .ok (.iconst 4, 1) := by decide +kernel
theorem dX8_stair_12 : decode cX8_stair 12 = .ok (.invokestatic 45, 3) := by decide +kernel
theorem dX8_stair_15 : decode cX8_stair 15 = .ok (.ifCond .ne 6, 3) := by decide +kernel
theorem dX8_stair_18 : decode cX8_stair 18 = .ok (.bipush (-2), 2) := by decide +kernel
theorem dX8_stair_20 : decode cX8_stair 20 = .ok (.ireturn, 1) := by decide +kernel
theorem dX8_stair_21 : decode cX8_stair 21 = .ok (.iload_n 1, 1) := by decide +kernel
theorem dX8_stair_22 : decode cX8_stair 22 = .ok (.iload_n 2, 1) := by decide +kernel
theorem dX8_stair_23 : decode cX8_stair 23 = .ok (.imul, 1) := by decide +kernel
theorem dX8_stair_24 : decode cX8_stair 24 = .ok (.bipush 8, 2) := by decide +kernel
theorem dX8_stair_26 : decode cX8_stair 26 = .ok (.if_icmp .le 6, 3) := by decide +kernel
theorem dX8_stair_29 : decode cX8_stair 29 = .ok (.bipush (-2), 2) := by decide +kernel
theorem dX8_stair_31 : decode cX8_stair 31 = .ok (.ireturn, 1) := by decide +kernel
theorem dX8_stair_32 : decode cX8_stair 32 = .ok (.aload_n 0, 1) := by decide +kernel
theorem dX8_stair_33 : decode cX8_stair 33 = .ok (.getfield 19, 3) := by decide +kernel
theorem dX8_stair_36 : decode cX8_stair 36 = .ok (.getfield 192, 3) := by decide +kernel
theorem dX8_stair_39 : decode cX8_stair 39 = .ok (.iload_n 1, 1) := by decide +kernel
theorem dX8_stair_40 : decode cX8_stair 40 = .ok (.iload_n 2, 1) := by decide +kernel
theorem dX8_stair_41 : decode cX8_stair 41 = .ok (.invokevirtual 196, 3) := by decide +kernel
theorem dX8_stair_44 : decode cX8_stair 44 = .ok (.ireturn, 1) := by decide +kernel
theorem dX8_tall_0 : decode cX8_tall 0 = .ok (.iload_n 1, 1) := by decide +kernel
theorem dX8_tall_1 : decode cX8_tall 1 = .ok (.iconst (-1), 1) := by decide +kernel
theorem dX8_tall_2 : decode cX8_tall 2 = .ok (.if_icmp .ne 30, 3) := by decide +kernel
theorem dX8_tall_5 : decode cX8_tall 5 = .ok (.iload_n 2, 1) := by decide +kernel
theorem dX8_tall_6 : decode cX8_tall 6 = .ok (.iconst 0, 1) := by decide +kernel
theorem dX8_tall_7 : decode cX8_tall 7 = .ok (.bipush 50, 2) := by decide +kernel
theorem dX8_tall_9 : decode cX8_tall 9 = .ok (.invokestatic 45, 3) := by decide +kernel
theorem dX8_tall_12 : decode cX8_tall 12 = .ok (.ifCond .eq 17, 3) := by decide +kernel
theorem dX8_tall_15 : decode cX8_tall 15 = .ok (.aload_n 0, 1) := by decide +kernel
theorem dX8_tall_16 : decode cX8_tall 16 = .ok (.getfield 19, 3) := by decide +kernel
theorem dX8_tall_19 : decode cX8_tall 19 = .ok (.getfield 192, 3) := by decide +kernel
theorem dX8_tall_22 : decode cX8_tall 22 = .ok (.iload_n 2, 1) := by decide +kernel
theorem dX8_tall_23 : decode cX8_tall 23 = .ok (.invokevirtual 201, 3) := by decide +kernel
theorem dX8_tall_26 : decode cX8_tall 26 = .ok (.goto 5, 3) := by decide +kernel
theorem dX8_tall_29 : decode cX8_tall 29 = .ok (.bipush (-2), 2) := by decide +kernel
theorem dX8_tall_31 : decode cX8_tall 31 = .ok (.ireturn, 1) := by decide +kernel
theorem dX8_tall_32 : decode cX8_tall 32 = .ok (.aload_n 0, 1) := by decide +kernel
theorem dX8_tall_33 : decode cX8_tall 33 = .ok (.getfield 19, 3) := by decide +kernel
theorem dX8_tall_36 : decode cX8_tall 36 = .ok (.iload_n 1, 1) := by decide +kernel
theorem dX8_tall_37 : decode cX8_tall 37 = .ok (.invokevirtual 53, 3) := by decide +kernel
theorem dX8_tall_40 : decode cX8_tall 40 = .ok (.ifCond .ne 5, 3) := by decide +kernel
theorem dX8_tall_43 : decode cX8_tall 43 = .ok (.iconst (-1), 1) := by decide +kernel
theorem dX8_tall_44 : decode cX8_tall 44 = .ok (.ireturn, 1) := by decide +kernel
theorem dX8_tall_45 : decode cX8_tall 45 = .ok (.iload_n 2, 1) := by decide +kernel
theorem dX8_tall_46 : decode cX8_tall 46 = .ok (.iconst 0, 1) := by decide +kernel
theorem dX8_tall_47 : decode cX8_tall 47 = .ok (.sipush 250, 3) := by decide +kernel
theorem dX8_tall_50 : decode cX8_tall 50 = .ok (.invokestatic 45, 3) := by decide +kernel
theorem dX8_tall_53 : decode cX8_tall 53 = .ok (.ifCond .eq 18, 3) := by decide +kernel
theorem dX8_tall_56 : decode cX8_tall 56 = .ok (.aload_n 0, 1) := by decide +kernel
theorem dX8_tall_57 : decode cX8_tall 57 = .ok (.getfield 19, 3) := by decide +kernel
theorem dX8_tall_60 : decode cX8_tall 60 = .ok (.getfield 192, 3) := by decide +kernel
theorem dX8_tall_63 : decode cX8_tall 63 = .ok (.iload_n 1, 1) := by decide +kernel
theorem dX8_tall_64 : decode cX8_tall 64 = .ok (.iload_n 2, 1) := by decide +kernel
theorem dX8_tall_65 : decode cX8_tall 65 = .ok (.invokevirtual 204, 3) := by decide +kernel
theorem dX8_tall_68 : decode cX8_tall 68 = .ok (.goto 5, 3) := by decide +kernel
theorem dX8_tall_71 : decode cX8_tall 71 = .ok (.bipush (-2), 2) := by decide +kernel
theorem dX8_tall_73 : decode cX8_tall 73 = .ok (.ireturn, 1) := by decide +kernel
theorem dX8_pair_0 : decode cX8_pair 0 = .ok (.aload_n 0, 1) := by decide +kernel
theorem dX8_pair_1 : decode cX8_pair 1 = .ok (.getfield 19, 3) := by decide +kernel
theorem dX8_pair_4 : decode cX8_pair 4 = .ok (.iload_n 1, 1) := by decide +kernel
theorem dX8_pair_5 : decode cX8_pair 5 = .ok (.invokevirtual 53, 3) := by decide +kernel
theorem dX8_pair_8 : decode cX8_pair 8 = .ok (.ifCond .eq 19, 3) := by decide +kernel
theorem dX8_pair_11 : decode cX8_pair 11 = .ok (.aload_n 0, 1) := by decide +kernel
theorem dX8_pair_12 : decode cX8_pair 12 = .ok (.getfield 19, 3) := by decide +kernel
theorem dX8_pair_15 : decode cX8_pair 15 = .ok (.iload_n 2, 1) := by decide +kernel
theorem dX8_pair_16 : decode cX8_pair 16 = .ok (.invokevirtual 53, 3) := by decide +kernel
theorem dX8_pair_19 : decode cX8_pair 19 = .ok (.ifCond .eq 8, 3) := by decide +kernel
theorem dX8_pair_22 : decode cX8_pair 22 = .ok (.iload_n 1, 1) := by decide +kernel
theorem dX8_pair_23 : decode cX8_pair 23 = .ok (.iload_n 2, 1) := by decide +kernel
theorem dX8_pair_24 : decode cX8_pair 24 = .ok (.if_icmp .ne 5, 3) := by decide +kernel
theorem dX8_pair_27 : decode cX8_pair 27 = .ok (.iconst (-1), 1) := by decide +kernel
theorem dX8_pair_28 : decode cX8_pair 28 = .ok (.ireturn, 1) := by decide +kernel
theorem dX8_pair_29 : decode cX8_pair 29 = .ok (.iload_n 3, 1) := by decide +kernel
theorem dX8_pair_30 : decode cX8_pair 30 = .ok (.iconst 0, 1) := by decide +kernel
theorem dX8_pair_31 : decode cX8_pair 31 = .ok (.iconst 2, 1) := by decide +kernel
theorem dX8_pair_32 : decode cX8_pair 32 = .ok (.invokestatic 45, 3) := by decide +kernel
theorem dX8_pair_35 : decode cX8_pair 35 = .ok (.ifCond .ne 6, 3) := by decide +kernel
theorem dX8_pair_38 : decode cX8_pair 38 = .ok (.bipush (-2), 2) := by decide +kernel
theorem dX8_pair_40 : decode cX8_pair 40 = .ok (.ireturn, 1) := by decide +kernel
theorem dX8_pair_41 : decode cX8_pair 41 = .ok (.aload_n 0, 1) := by decide +kernel
theorem dX8_pair_42 : decode cX8_pair 42 = .ok (.getfield 19, 3) := by decide +kernel
theorem dX8_pair_45 : decode cX8_pair 45 = .ok (.getfield 192, 3) := by decide +kernel
theorem dX8_pair_48 : decode cX8_pair 48 = .ok (.iload_n 1, 1) := by decide +kernel
theorem dX8_pair_49 : decode cX8_pair 49 = .ok (.iload_n 2, 1) := by decide +kernel
theorem dX8_pair_50 : decode cX8_pair 50 = .ok (.iload_n 3, 1) := by decide +kernel
theorem dX8_pair_51 : decode cX8_pair 51 = .ok (.invokevirtual 207, 3) := by decide +kernel
theorem dX8_pair_54 : decode cX8_pair 54 = .ok (.ireturn, 1) := by decide +kernel
theorem dX8_judge_0 : decode cX8_judge 0 = .ok (.iload_n 1, 1) := by decide +kernel
theorem dX8_judge_1 : decode cX8_judge 1 = .ok (.iconst 0, 1) := by decide +kernel
theorem dX8_judge_2 : decode cX8_judge 2 = .ok (.iconst 1, 1) := by decide +kernel
theorem dX8_judge_3 : decode cX8_judge 3 = .ok (.invokestatic 45, 3) := by decide +kernel
theorem dX8_judge_6 : decode cX8_judge 6 = .ok (.ifCond .ne 6, 3) := by decide +kernel
theorem dX8_judge_9 : decode cX8_judge 9 = .ok (.bipush (-2), 2) := by decide +kernel
theorem dX8_judge_11 : decode cX8_judge 11 = .ok (.ireturn, 1) := by decide +kernel
theorem dX8_judge_12 : decode cX8_judge 12 = .ok (.aload_n 0, 1) := by decide +kernel
theorem dX8_judge_13 : decode cX8_judge 13 = .ok (.invokevirtual 78, 3) := by decide +kernel
theorem dX8_judge_16 : decode cX8_judge 16 = .ok (.bipush (-6), 2) := by decide +kernel
theorem dX8_judge_18 : decode cX8_judge 18 = .ok (.if_icmp .eq 6, 3) := by decide +kernel
theorem dX8_judge_21 : decode cX8_judge 21 = .ok (.bipush (-5), 2) := by decide +kernel
theorem dX8_judge_23 : decode cX8_judge 23 = .ok (.ireturn, 1) := by decide +kernel
theorem dX8_judge_24 : decode cX8_judge 24 = .ok (.aload_n 0, 1) := by decide +kernel
theorem dX8_judge_25 : decode cX8_judge 25 = .ok (.getfield 10, 3) := by decide +kernel
theorem dX8_judge_28 : decode cX8_judge 28 = .ok (.aload_n 0, 1) := by decide +kernel
theorem dX8_judge_29 : decode cX8_judge 29 = .ok (.getfield 41, 3) := by decide +kernel
theorem dX8_judge_32 : decode cX8_judge 32 = .ok (.aload_n 0, 1) := by decide +kernel
theorem dX8_judge_33 : decode cX8_judge 33 = .ok (.getfield 19, 3) := by decide +kernel
theorem dX8_judge_36 : decode cX8_judge 36 = .ok (.getfield 72, 3) := by decide +kernel
theorem dX8_judge_39 : decode cX8_judge 39 = .ok (.invokevirtual 210, 3) := by decide +kernel
theorem dX8_judge_42 : decode cX8_judge 42 = .ok (.aload_n 0, 1) := by decide +kernel
theorem dX8_judge_43 : decode cX8_judge 43 = .ok (.getfield 19, 3) := by decide +kernel
theorem dX8_judge_46 : decode cX8_judge 46 = .ok (.getfield 192, 3) := by decide +kernel
theorem dX8_judge_49 : decode cX8_judge 49 = .ok (.aload_n 0, 1) := by decide +kernel
theorem dX8_judge_50 : decode cX8_judge 50 = .ok (.getfield 41, 3) := by decide +kernel
theorem dX8_judge_53 : decode cX8_judge 53 = .ok (.aload_n 0, 1) := by decide +kernel
theorem dX8_judge_54 : decode cX8_judge 54 = .ok (.getfield 19, 3) := by decide +kernel
theorem dX8_judge_57 : decode cX8_judge 57 = .ok (.getfield 72, 3) := by decide +kernel
theorem dX8_judge_60 : decode cX8_judge 60 = .ok (.invokevirtual 214, 3) := by decide +kernel
theorem dX8_judge_63 : decode cX8_judge 63 = .ok (.istore_n 2, 1) := by decide +kernel
theorem dX8_judge_64 : decode cX8_judge 64 = .ok (.iload_n 2, 1) := by decide +kernel
theorem dX8_judge_65 : decode cX8_judge 65 = .ok (.bipush (-6), 2) := by decide +kernel
theorem dX8_judge_67 : decode cX8_judge 67 = .ok (.if_icmp .eq 7, 3) := by decide +kernel
theorem dX8_judge_70 : decode cX8_judge 70 = .ok (.iload_n 1, 1) := by decide +kernel
theorem dX8_judge_71 : decode cX8_judge 71 = .ok (.ifCond .ne 5, 3) := by decide +kernel
theorem dX8_judge_74 : decode cX8_judge 74 = .ok (.iload_n 2, 1) := by decide +kernel
theorem dX8_judge_75 : decode cX8_judge 75 = .ok (.ireturn, 1) := by decide +kernel
theorem dX8_judge_76 : decode cX8_judge 76 = .ok (.aload_n 0, 1) := by decide +kernel
theorem dX8_judge_77 : decode cX8_judge 77 = .ok (.getfield 19, 3) := by decide +kernel
theorem dX8_judge_80 : decode cX8_judge 80 = .ok (.getfield 192, 3) := by decide +kernel
theorem dX8_judge_83 : decode cX8_judge 83 = .ok (.iload_n 2, 1) := by decide +kernel
theorem dX8_judge_84 : decode cX8_judge 84 = .ok (.aload_n 0, 1) := by decide +kernel
theorem dX8_judge_85 : decode cX8_judge 85 = .ok (.getfield 41, 3) := by decide +kernel
theorem dX8_judge_88 : decode cX8_judge 88 = .ok (.aload_n 0, 1) := by decide +kernel
theorem dX8_judge_89 : decode cX8_judge 89 = .ok (.getfield 19, 3) := by decide +kernel
theorem dX8_judge_92 : decode cX8_judge 92 = .ok (.getfield 72, 3) := by decide +kernel
theorem dX8_judge_95 : decode cX8_judge 95 = .ok (.invokevirtual 218, 3) := by decide +kernel
theorem dX8_judge_98 : decode cX8_judge 98 = .ok (.ireturn, 1) := by decide +kernel
theorem dX8_placed_0 : decode cX8_placed 0 = .ok (.aload_n 0, 1) := by decide +kernel
theorem dX8_placed_1 : decode cX8_placed 1 = .ok (.getfield 19, 3) := by decide +kernel
theorem dX8_placed_4 : decode cX8_placed 4 = .ok (.getfield 72, 3) := by decide +kernel
theorem dX8_placed_7 : decode cX8_placed 7 = .ok (.aload_n 0, 1) := by decide +kernel
theorem dX8_placed_8 : decode cX8_placed 8 = .ok (.getfield 19, 3) := by decide +kernel
theorem dX8_placed_11 : decode cX8_placed 11 = .ok (.getfield 192, 3) := by decide +kernel
theorem dX8_placed_14 : decode cX8_placed 14 = .ok (.invokevirtual 222, 3) := by decide +kernel
theorem dX8_placed_17 : decode cX8_placed 17 = .ok (.if_icmp .le 6, 3) := by decide +kernel
theorem dX8_placed_20 : decode cX8_placed 20 = .ok (.bipush (-3), 2) := by decide +kernel
theorem dX8_placed_22 : decode cX8_placed 22 = .ok (.ireturn, 1) := by decide +kernel
theorem dX8_placed_23 : decode cX8_placed 23 = .ok (.iload_n 1, 1) := by decide +kernel
theorem dX8_placed_24 : decode cX8_placed 24 = .ok (.iconst (-1), 1) := by decide +kernel
theorem dX8_placed_25 : decode cX8_placed 25 = .ok (.if_icmp .eq 17, 3) := by decide +kernel
theorem dX8_placed_28 : decode cX8_placed 28 = .ok (.aload_n 0, 1) := by decide +kernel
theorem dX8_placed_29 : decode cX8_placed 29 = .ok (.getfield 19, 3) := by decide +kernel
theorem dX8_placed_32 : decode cX8_placed 32 = .ok (.iload_n 1, 1) := by decide +kernel
theorem dX8_placed_33 : decode cX8_placed 33 = .ok (.invokevirtual 53, 3) := by decide +kernel
theorem dX8_placed_36 : decode cX8_placed 36 = .ok (.ifCond .ne 6, 3) := by decide +kernel
theorem dX8_placed_39 : decode cX8_placed 39 = .ok (.bipush (-6), 2) := by decide +kernel
theorem dX8_placed_41 : decode cX8_placed 41 = .ok (.ireturn, 1) := by decide +kernel
theorem dX8_placed_42 : decode cX8_placed 42 = .ok (.aload_n 0, 1) := by decide +kernel
theorem dX8_placed_43 : decode cX8_placed 43 = .ok (.getfield 37, 3) := by decide +kernel
theorem dX8_placed_46 : decode cX8_placed 46 = .ok (.aload_n 0, 1) := by decide +kernel
theorem dX8_placed_47 : decode cX8_placed 47 = .ok (.getfield 19, 3) := by decide +kernel
theorem dX8_placed_50 : decode cX8_placed 50 = .ok (.getfield 192, 3) := by decide +kernel
theorem dX8_placed_53 : decode cX8_placed 53 = .ok (.aload_n 0, 1) := by decide +kernel
theorem dX8_placed_54 : decode cX8_placed 54 = .ok (.getfield 19, 3) := by decide +kernel
theorem dX8_placed_57 : decode cX8_placed 57 = .ok (.getfield 72, 3) := by decide +kernel
theorem dX8_placed_60 : decode cX8_placed 60 = .ok (.invokevirtual 225, 3) := by decide +kernel
theorem dX8_placed_63 : decode cX8_placed 63 = .ok (.iload_n 1, 1) := by decide +kernel
theorem dX8_placed_64 : decode cX8_placed 64 = .ok (.iconst (-1), 1) := by decide +kernel
theorem dX8_placed_65 : decode cX8_placed 65 = .ok (.if_icmp .ne 13, 3) := by decide +kernel
theorem dX8_placed_68 : decode cX8_placed 68 = .ok (.aload_n 0, 1) := by decide +kernel
theorem dX8_placed_69 : decode cX8_placed 69 = .ok (.getfield 37, 3) := by decide +kernel
theorem dX8_placed_72 : decode cX8_placed 72 = .ok (.getfield 228, 3) := by decide +kernel
theorem dX8_placed_75 : decode cX8_placed 75 = .ok (.goto 11, 3) := by decide +kernel
theorem dX8_placed_78 : decode cX8_placed 78 = .ok (.aload_n 0, 1) := by decide +kernel
theorem dX8_placed_79 : decode cX8_placed 79 = .ok (.getfield 37, 3) := by decide +kernel
theorem dX8_placed_82 : decode cX8_placed 82 = .ok (.iload_n 1, 1) := by decide +kernel
theorem dX8_placed_83 : decode cX8_placed 83 = .ok (.invokevirtual 231, 3) := by decide +kernel
theorem dX8_placed_86 : decode cX8_placed 86 = .ok (.ireturn, 1) := by decide +kernel
theorem dX8_image_0 : decode cX8_image 0 = .ok (.iload_n 1, 1) := by decide +kernel
theorem dX8_image_1 : decode cX8_image 1 = .ok (.iconst 0, 1) := by decide +kernel
theorem dX8_image_2 : decode cX8_image 2 = .ok (.iconst 1, 1) := by decide +kernel
theorem dX8_image_3 : decode cX8_image 3 = .ok (.invokestatic 45, 3) := by decide +kernel
theorem dX8_image_6 : decode cX8_image 6 = .ok (.ifCond .ne 6, 3) := by decide +kernel
theorem dX8_image_9 : decode cX8_image 9 = .ok (.bipush (-2), 2) := by decide +kernel
theorem dX8_image_11 : decode cX8_image 11 = .ok (.ireturn, 1) := by decide +kernel
theorem dX8_image_12 : decode cX8_image 12 = .ok (.aload_n 0, 1) := by decide +kernel
theorem dX8_image_13 : decode cX8_image 13 = .ok (.getfield 23, 3) := by decide +kernel
theorem dX8_image_16 : decode cX8_image 16 = .ok (.iload_n 1, 1) := by decide +kernel
theorem dX8_image_17 : decode cX8_image 17 = .ok (.aaload, 1) := by decide +kernel
theorem dX8_image_18 : decode cX8_image 18 = .ok (.ifnonnull 16, 3) := by decide +kernel
theorem dX8_image_21 : decode cX8_image 21 = .ok (.aload_n 0, 1) := by decide +kernel
theorem dX8_image_22 : decode cX8_image 22 = .ok (.getfield 23, 3) := by decide +kernel
theorem dX8_image_25 : decode cX8_image 25 = .ok (.iload_n 1, 1) := by decide +kernel
theorem dX8_image_26 : decode cX8_image 26 = .ok (.new 16, 3) := by decide +kernel
theorem dX8_image_29 : decode cX8_image 29 = .ok (.dup, 1) := by decide +kernel
theorem dX8_image_30 : decode cX8_image 30 = .ok (.invokespecial 18, 3) := by decide +kernel
theorem dX8_image_33 : decode cX8_image 33 = .ok (.aastore, 1) := by decide +kernel
theorem dX8_image_34 : decode cX8_image 34 = .ok (.aload_n 0, 1) := by decide +kernel
theorem dX8_image_35 : decode cX8_image 35 = .ok (.getfield 23, 3) := by decide +kernel
theorem dX8_image_38 : decode cX8_image 38 = .ok (.iload_n 1, 1) := by decide +kernel
theorem dX8_image_39 : decode cX8_image 39 = .ok (.aaload, 1) := by decide +kernel
theorem dX8_image_40 : decode cX8_image 40 = .ok (.aload_n 0, 1) := by decide +kernel
theorem dX8_image_41 : decode cX8_image 41 = .ok (.getfield 19, 3) := by decide +kernel
theorem dX8_image_44 : decode cX8_image 44 = .ok (.invokevirtual 234, 3) := by decide +kernel
theorem dX8_image_47 : decode cX8_image 47 = .ok (.iconst 1, 1) := by decide +kernel
theorem dX8_image_48 : decode cX8_image 48 = .ok (.ireturn, 1) := by decide +kernel
theorem dX8_restore_0 : decode cX8_restore 0 = .ok (.iload_n 1, 1) := by decide +kernel
theorem dX8_restore_1 : decode cX8_restore 1 = .ok (.iconst 0, 1) := by decide +kernel
theorem dX8_restore_2 : decode cX8_restore 2 = .ok (.iconst 1, 1) := by decide +kernel
theorem dX8_restore_3 : decode cX8_restore 3 = .ok (.invokestatic 45, 3) := by decide +kernel
theorem dX8_restore_6 : decode cX8_restore 6 = .ok (.ifCond .ne 6, 3) := by decide +kernel
theorem dX8_restore_9 : decode cX8_restore 9 = .ok (.bipush (-2), 2) := by decide +kernel
theorem dX8_restore_11 : decode cX8_restore 11 = .ok (.ireturn, 1) := by decide +kernel
theorem dX8_restore_12 : decode cX8_restore 12 = .ok (.aload_n 0, 1) := by decide +kernel
theorem dX8_restore_13 : decode cX8_restore 13 = .ok (.getfield 23, 3) := by decide +kernel
theorem dX8_restore_16 : decode cX8_restore 16 = .ok (.iload_n 1, 1) := by decide +kernel
theorem dX8_restore_17 : decode cX8_restore 17 = .ok (.aaload, 1) := by decide +kernel
theorem dX8_restore_18 : decode cX8_restore 18 = .ok (.ifnonnull 6, 3) := by decide +kernel
theorem dX8_restore_21 : decode cX8_restore 21 = .ok (.bipush (-3), 2) := by decide +kernel
theorem dX8_restore_23 : decode cX8_restore 23 = .ok (.ireturn, 1) := by decide +kernel
theorem dX8_restore_24 : decode cX8_restore 24 = .ok (.aload_n 0, 1) := by decide +kernel
theorem dX8_restore_25 : decode cX8_restore 25 = .ok (.getfield 19, 3) := by decide +kernel
theorem dX8_restore_28 : decode cX8_restore 28 = .ok (.aload_n 0, 1) := by decide +kernel
theorem dX8_restore_29 : decode cX8_restore 29 = .ok (.getfield 23, 3) := by decide +kernel
theorem dX8_restore_32 : decode cX8_restore 32 = .ok (.iload_n 1, 1) := by decide +kernel
theorem dX8_restore_33 : decode cX8_restore 33 = .ok (.aaload, 1) := by decide +kernel
theorem dX8_restore_34 : decode cX8_restore 34 = .ok (.invokevirtual 234, 3) := by decide +kernel
theorem dX8_restore_37 : decode cX8_restore 37 = .ok (.iconst 1, 1) := by decide +kernel
theorem dX8_restore_38 : decode cX8_restore 38 = .ok (.ireturn, 1) := by decide +kernel
theorem dX8_told_0 : decode cX8_told 0 = .ok (.aload_n 0, 1) := by decide +kernel
theorem dX8_told_1 : decode cX8_told 1 = .ok (.getfield 19, 3) := by decide +kernel
theorem dX8_told_4 : decode cX8_told 4 = .ok (.iload_n 1, 1) := by decide +kernel
theorem dX8_told_5 : decode cX8_told 5 = .ok (.bipush 10, 2) := by decide +kernel
theorem dX8_told_7 : decode cX8_told 7 = .ok (.isub, 1) := by decide +kernel
theorem dX8_told_8 : decode cX8_told 8 = .ok (.invokevirtual 53, 3) := by decide +kernel
theorem dX8_told_11 : decode cX8_told 11 = .ok (.ifCond .eq 18, 3) := by decide +kernel
theorem dX8_told_14 : decode cX8_told 14 = .ok (.aload_n 0, 1) := by decide +kernel
theorem dX8_told_15 : decode cX8_told 15 = .ok (.getfield 19, 3) := by decide +kernel
theorem dX8_told_18 : decode cX8_told 18 = .ok (.getfield 192, 3) := by decide +kernel
theorem dX8_told_21 : decode cX8_told 21 = .ok (.iload_n 1, 1) := by decide +kernel
theorem dX8_told_22 : decode cX8_told 22 = .ok (.bipush 10, 2) := by decide +kernel
theorem dX8_told_24 : decode cX8_told 24 = .ok (.isub, 1) := by decide +kernel
theorem dX8_told_25 : decode cX8_told 25 = .ok (.invokevirtual 238, 3) := by decide +kernel
theorem dX8_told_28 : decode cX8_told 28 = .ok (.ireturn, 1) := by decide +kernel
theorem dX8_told_29 : decode cX8_told 29 = .ok (.aload_n 0, 1) := by decide +kernel
theorem dX8_told_30 : decode cX8_told 30 = .ok (.getfield 19, 3) := by decide +kernel
theorem dX8_told_33 : decode cX8_told 33 = .ok (.iload_n 1, 1) := by decide +kernel
theorem dX8_told_34 : decode cX8_told 34 = .ok (.bipush 20, 2) := by decide +kernel
theorem dX8_told_36 : decode cX8_told 36 = .ok (.isub, 1) := by decide +kernel
theorem dX8_told_37 : decode cX8_told 37 = .ok (.invokevirtual 53, 3) := by decide +kernel
theorem dX8_told_40 : decode cX8_told 40 = .ok (.ifCond .eq 18, 3) := by decide +kernel
theorem dX8_told_43 : decode cX8_told 43 = .ok (.aload_n 0, 1) := by decide +kernel
theorem dX8_told_44 : decode cX8_told 44 = .ok (.getfield 19, 3) := by decide +kernel
theorem dX8_told_47 : decode cX8_told 47 = .ok (.getfield 158, 3) := by decide +kernel
theorem dX8_told_50 : decode cX8_told 50 = .ok (.iload_n 1, 1) := by decide +kernel
theorem dX8_told_51 : decode cX8_told 51 = .ok (.bipush 20, 2) := by decide +kernel
theorem dX8_told_53 : decode cX8_told 53 = .ok (.isub, 1) := by decide +kernel
theorem dX8_told_54 : decode cX8_told 54 = .ok (.invokevirtual 241, 3) := by decide +kernel
theorem dX8_told_57 : decode cX8_told 57 = .ok (.ireturn, 1) := by decide +kernel
theorem dX8_told_58 : decode cX8_told 58 = .ok (.iload_n 1, 1) := by decide +kernel
theorem dX8_told_59 : decode cX8_told 59 = .ok (.tableswitch 154 0 9 #[53, 61, 69, 80, 88, 99, 110, 121, 132, 143], 53) := by decide +kernel
theorem dX8_told_112 : decode cX8_told 112 = .ok (.aload_n 0, 1) := by decide +kernel
theorem dX8_told_113 : decode cX8_told 113 = .ok (.getfield 10, 3) := by decide +kernel
theorem dX8_told_116 : decode cX8_told 116 = .ok (.getfield 244, 3) := by decide +kernel
theorem dX8_told_119 : decode cX8_told 119 = .ok (.ireturn, 1) := by decide +kernel
theorem dX8_told_120 : decode cX8_told 120 = .ok (.aload_n 0, 1) := by decide +kernel
theorem dX8_told_121 : decode cX8_told 121 = .ok (.getfield 19, 3) := by decide +kernel
theorem dX8_told_124 : decode cX8_told 124 = .ok (.getfield 72, 3) := by decide +kernel
theorem dX8_told_127 : decode cX8_told 127 = .ok (.ireturn, 1) := by decide +kernel
theorem dX8_told_128 : decode cX8_told 128 = .ok (.aload_n 0, 1) := by decide +kernel
theorem dX8_told_129 : decode cX8_told 129 = .ok (.getfield 19, 3) := by decide +kernel
theorem dX8_told_132 : decode cX8_told 132 = .ok (.getfield 81, 3) := by decide +kernel
theorem dX8_told_135 : decode cX8_told 135 = .ok (.getfield 245, 3) := by decide +kernel
theorem dX8_told_138 : decode cX8_told 138 = .ok (.ireturn, 1) := by decide +kernel
theorem dX8_told_139 : decode cX8_told 139 = .ok (.aload_n 0, 1) := by decide +kernel
theorem dX8_told_140 : decode cX8_told 140 = .ok (.getfield 19, 3) := by decide +kernel
theorem dX8_told_143 : decode cX8_told 143 = .ok (.getfield 57, 3) := by decide +kernel
theorem dX8_told_146 : decode cX8_told 146 = .ok (.ireturn, 1) := by decide +kernel
theorem dX8_told_147 : decode cX8_told 147 = .ok (.aload_n 0, 1) := by decide +kernel
theorem dX8_told_148 : decode cX8_told 148 = .ok (.getfield 19, 3) := by decide +kernel
theorem dX8_told_151 : decode cX8_told 151 = .ok (.getfield 81, 3) := by decide +kernel
theorem dX8_told_154 : decode cX8_told 154 = .ok (.getfield 115, 3) := by decide +kernel
theorem dX8_told_157 : decode cX8_told 157 = .ok (.ireturn, 1) := by decide +kernel
theorem dX8_told_158 : decode cX8_told 158 = .ok (.aload_n 0, 1) := by decide +kernel
theorem dX8_told_159 : decode cX8_told 159 = .ok (.getfield 19, 3) := by decide +kernel
theorem dX8_told_162 : decode cX8_told 162 = .ok (.getfield 128, 3) := by decide +kernel
theorem dX8_told_165 : decode cX8_told 165 = .ok (.getfield 141, 3) := by decide +kernel
theorem dX8_told_168 : decode cX8_told 168 = .ok (.ireturn, 1) := by decide +kernel
theorem dX8_told_169 : decode cX8_told 169 = .ok (.aload_n 0, 1) := by decide +kernel
theorem dX8_told_170 : decode cX8_told 170 = .ok (.getfield 19, 3) := by decide +kernel
theorem dX8_told_173 : decode cX8_told 173 = .ok (.getfield 158, 3) := by decide +kernel
theorem dX8_told_176 : decode cX8_told 176 = .ok (.getfield 246, 3) := by decide +kernel
theorem dX8_told_179 : decode cX8_told 179 = .ok (.ireturn, 1) := by decide +kernel
theorem dX8_told_180 : decode cX8_told 180 = .ok (.aload_n 0, 1) := by decide +kernel
theorem dX8_told_181 : decode cX8_told 181 = .ok (.getfield 19, 3) := by decide +kernel
theorem dX8_told_184 : decode cX8_told 184 = .ok (.getfield 192, 3) := by decide +kernel
theorem dX8_told_187 : decode cX8_told 187 = .ok (.getfield 249, 3) := by decide +kernel
theorem dX8_told_190 : decode cX8_told 190 = .ok (.ireturn, 1) := by decide +kernel
theorem dX8_told_191 : decode cX8_told 191 = .ok (.aload_n 0, 1) := by decide +kernel
theorem dX8_told_192 : decode cX8_told 192 = .ok (.getfield 19, 3) := by decide +kernel
theorem dX8_told_195 : decode cX8_told 195 = .ok (.getfield 192, 3) := by decide +kernel
theorem dX8_told_198 : decode cX8_told 198 = .ok (.getfield 252, 3) := by decide +kernel
theorem dX8_told_201 : decode cX8_told 201 = .ok (.ireturn, 1) := by decide +kernel
theorem dX8_told_202 : decode cX8_told 202 = .ok (.aload_n 0, 1) := by decide +kernel
theorem dX8_told_203 : decode cX8_told 203 = .ok (.getfield 19, 3) := by decide +kernel
theorem dX8_told_206 : decode cX8_told 206 = .ok (.getfield 192, 3) := by decide +kernel
theorem dX8_told_209 : decode cX8_told 209 = .ok (.getfield 255, 3) := by decide +kernel
theorem dX8_told_212 : decode cX8_told 212 = .ok (.ireturn, 1) := by decide +kernel
theorem dX8_told_213 : decode cX8_told 213 = .ok (.bipush (-2), 2) := by decide +kernel
theorem dX8_told_215 : decode cX8_told 215 = .ok (.ireturn, 1) := by decide +kernel
theorem dX8_standingFault_0 : decode cX8_standingFault 0 = .ok (.aload_n 0, 1) := by decide +kernel
theorem dX8_standingFault_1 : decode cX8_standingFault 1 = .ok (.getfield 10, 3) := by decide +kernel
theorem dX8_standingFault_4 : decode cX8_standingFault 4 = .ok (.aload_n 0, 1) := by decide +kernel
theorem dX8_standingFault_5 : decode cX8_standingFault 5 = .ok (.getfield 19, 3) := by decide +kernel
theorem dX8_standingFault_8 : decode cX8_standingFault 8 = .ok (.getfield 72, 3) := by decide +kernel
theorem dX8_standingFault_11 : decode cX8_standingFault 11 = .ok (.aload_n 0, 1) := by decide +kernel
theorem dX8_standingFault_12 : decode cX8_standingFault 12 = .ok (.getfield 19, 3) := by decide +kernel
theorem dX8_standingFault_15 : decode cX8_standingFault 15 = .ok (.getfield 192, 3) := by decide +kernel
theorem dX8_standingFault_18 : decode cX8_standingFault 18 = .ok (.invokevirtual 222, 3) := by decide +kernel
theorem dX8_standingFault_21 : decode cX8_standingFault 21 = .ok (.invokevirtual 258, 3) := by decide +kernel
theorem dX8_standingFault_24 : decode cX8_standingFault 24 = .ok (.ireturn, 1) := by decide +kernel
theorem dX8_within_0 : decode cX8_within 0 = .ok (.iload_n 0, 1) := by decide +kernel
theorem dX8_within_1 : decode cX8_within 1 = .ok (.iload_n 1, 1) := by decide +kernel
theorem dX8_within_2 : decode cX8_within 2 = .ok (.if_icmp .lt 12, 3) := by decide +kernel
theorem dX8_within_5 : decode cX8_within 5 = .ok (.iload_n 0, 1) := by decide +kernel
theorem dX8_within_6 : decode cX8_within 6 = .ok (.iload_n 2, 1) := by decide +kernel
theorem dX8_within_7 : decode cX8_within 7 = .ok (.if_icmp .gt 7, 3) := by decide +kernel
theorem dX8_within_10 : decode cX8_within 10 = .ok (.iconst 1, 1) := by decide +kernel
theorem dX8_within_11 : decode cX8_within 11 = .ok (.goto 4, 3) := by decide +kernel
theorem dX8_within_14 : decode cX8_within 14 = .ok (.iconst 0, 1) := by decide +kernel
theorem dX8_within_15 : decode cX8_within 15 = .ok (.ireturn, 1) := by decide +kernel
theorem dX8_lowest_0 : decode cX8_lowest 0 = .ok (.lload_n 0, 1) := by decide +kernel
theorem dX8_lowest_1 : decode cX8_lowest 1 = .ok (.lstore 5, 2) := by decide +kernel
theorem dX8_lowest_3 : decode cX8_lowest 3 = .ok (.lload_n 2, 1) := by decide +kernel
theorem dX8_lowest_4 : decode cX8_lowest 4 = .ok (.lstore 7, 2) := by decide +kernel
theorem dX8_lowest_6 : decode cX8_lowest 6 = .ok (.iconst 0, 1) := by decide +kernel
theorem dX8_lowest_7 : decode cX8_lowest 7 = .ok (.istore 9, 2) := by decide +kernel
theorem dX8_lowest_9 : decode cX8_lowest 9 = .ok (.iload 9, 2) := by decide +kernel
theorem dX8_lowest_11 : decode cX8_lowest 11 = .ok (.bipush 64, 2) := by decide +kernel
theorem dX8_lowest_13 : decode cX8_lowest 13 = .ok (.if_icmp .ge 43, 3) := by decide +kernel
theorem dX8_lowest_16 : decode cX8_lowest 16 = .ok (.lload 7, 2) := by decide +kernel
theorem dX8_lowest_18 : decode cX8_lowest 18 = .ok (.lconst 1, 1) := by decide +kernel
theorem dX8_lowest_19 : decode cX8_lowest 19 = .ok (.lcmp, 1) := by decide +kernel
theorem dX8_lowest_20 : decode cX8_lowest 20 = .ok (.ifCond .le 36, 3) := by decide +kernel
theorem dX8_lowest_23 : decode cX8_lowest 23 = .ok (.lload 5, 2) := by decide +kernel
theorem dX8_lowest_25 : decode cX8_lowest 25 = .ok (.ldc2_w 261, 3) := by decide +kernel
theorem dX8_lowest_28 : decode cX8_lowest 28 = .ok (.lrem, 1) := by decide +kernel
theorem dX8_lowest_29 : decode cX8_lowest 29 = .ok (.lconst 0, 1) := by decide +kernel
theorem dX8_lowest_30 : decode cX8_lowest 30 = .ok (.lcmp, 1) := by decide +kernel
theorem dX8_lowest_31 : decode cX8_lowest 31 = .ok (.ifCond .ne 25, 3) := by decide +kernel
theorem dX8_lowest_34 : decode cX8_lowest 34 = .ok (.lload 5, 2) := by decide +kernel
theorem dX8_lowest_36 : decode cX8_lowest 36 = .ok (.ldc2_w 261, 3) := by decide +kernel
theorem dX8_lowest_39 : decode cX8_lowest 39 = .ok (.ldiv, 1) := by decide +kernel
theorem dX8_lowest_40 : decode cX8_lowest 40 = .ok (.lstore 5, 2) := by decide +kernel
theorem dX8_lowest_42 : decode cX8_lowest 42 = .ok (.lload 7, 2) := by decide +kernel
theorem dX8_lowest_44 : decode cX8_lowest 44 = .ok (.ldc2_w 261, 3) := by decide +kernel
theorem dX8_lowest_47 : decode cX8_lowest 47 = .ok (.ldiv, 1) := by decide +kernel
theorem dX8_lowest_48 : decode cX8_lowest 48 = .ok (.lstore 7, 2) := by decide +kernel
theorem dX8_lowest_50 : decode cX8_lowest 50 = .ok (.iinc 9 1, 3) := by decide +kernel
theorem dX8_lowest_53 : decode cX8_lowest 53 = .ok (.goto (-44), 3) := by decide +kernel
theorem dX8_lowest_56 : decode cX8_lowest 56 = .ok (.iload 4, 2) := by decide +kernel
theorem dX8_lowest_58 : decode cX8_lowest 58 = .ok (.ifCond .ne 8, 3) := by decide +kernel
theorem dX8_lowest_61 : decode cX8_lowest 61 = .ok (.lload 5, 2) := by decide +kernel
theorem dX8_lowest_63 : decode cX8_lowest 63 = .ok (.goto 5, 3) := by decide +kernel
theorem dX8_lowest_66 : decode cX8_lowest 66 = .ok (.lload 7, 2) := by decide +kernel
theorem dX8_lowest_68 : decode cX8_lowest 68 = .ok (.lreturn, 1) := by decide +kernel
theorem dX9_init_0 : decode cX9_init 0 = .ok (.aload_n 0, 1) := by decide +kernel
theorem dX9_init_1 : decode cX9_init 1 = .ok (.invokespecial 1, 3) := by decide +kernel
theorem dX9_init_4 : decode cX9_init 4 = .ok (.aload_n 0, 1) := by decide +kernel
theorem dX9_init_5 : decode cX9_init 5 = .ok (.bipush 80, 2) := by decide +kernel
theorem dX9_init_7 : decode cX9_init 7 = .ok (.newarray .int, 2) := by decide +kernel
theorem dX9_init_9 : decode cX9_init 9 = .ok (.putfield 7, 3) := by decide +kernel
theorem dX9_init_12 : decode cX9_init 12 = .ok (.aload_n 0, 1) := by decide +kernel
theorem dX9_init_13 : decode cX9_init 13 = .ok (.bipush 8, 2) := by decide +kernel
theorem dX9_init_15 : decode cX9_init 15 = .ok (.newarray .int, 2) := by decide +kernel
theorem dX9_init_17 : decode cX9_init 17 = .ok (.putfield 13, 3) := by decide +kernel
theorem dX9_init_20 : decode cX9_init 20 = .ok (.aload_n 0, 1) := by decide +kernel
theorem dX9_init_21 : decode cX9_init 21 = .ok (.bipush 8, 2) := by decide +kernel
theorem dX9_init_23 : decode cX9_init 23 = .ok (.newarray .int, 2) := by decide +kernel
theorem dX9_init_25 : decode cX9_init 25 = .ok (.putfield 16, 3) := by decide +kernel
theorem dX9_init_28 : decode cX9_init 28 = .ok (.aload_n 0, 1) := by decide +kernel
theorem dX9_init_29 : decode cX9_init 29 = .ok (.bipush 8, 2) := by decide +kernel
theorem dX9_init_31 : decode cX9_init 31 = .ok (.newarray .int, 2) := by decide +kernel
theorem dX9_init_33 : decode cX9_init 33 = .ok (.putfield 19, 3) := by decide +kernel
theorem dX9_init_36 : decode cX9_init 36 = .ok (.aload_n 0, 1) := by decide +kernel
theorem dX9_init_37 : decode cX9_init 37 = .ok (.bipush 8, 2) := by decide +kernel
theorem dX9_init_39 : decode cX9_init 39 = .ok (.newarray .int, 2) := by decide +kernel
theorem dX9_init_41 : decode cX9_init 41 = .ok (.putfield 22, 3) := by decide +kernel
theorem dX9_init_44 : decode cX9_init 44 = .ok (.aload_n 0, 1) := by decide +kernel
theorem dX9_init_45 : decode cX9_init 45 = .ok (.bipush 8, 2) := by decide +kernel
theorem dX9_init_47 : decode cX9_init 47 = .ok (.newarray .int, 2) := by decide +kernel
theorem dX9_init_49 : decode cX9_init 49 = .ok (.putfield 25, 3) := by decide +kernel
theorem dX9_init_52 : decode cX9_init 52 = .ok (.aload_n 0, 1) := by decide +kernel
theorem dX9_init_53 : decode cX9_init 53 = .ok (.bipush 64, 2) := by decide +kernel
theorem dX9_init_55 : decode cX9_init 55 = .ok (.newarray .int, 2) := by decide +kernel
theorem dX9_init_57 : decode cX9_init 57 = .ok (.putfield 28, 3) := by decide +kernel
theorem dX9_init_60 : decode cX9_init 60 = .ok (.aload_n 0, 1) := by decide +kernel
theorem dX9_init_61 : decode cX9_init 61 = .ok (.bipush 40, 2) := by decide +kernel
theorem dX9_init_63 : decode cX9_init 63 = .ok (.newarray .int, 2) := by decide +kernel
theorem dX9_init_65 : decode cX9_init 65 = .ok (.putfield 31, 3) := by decide +kernel
theorem dX9_init_68 : decode cX9_init 68 = .ok (.aload_n 0, 1) := by decide +kernel
theorem dX9_init_69 : decode cX9_init 69 = .ok (.bipush 80, 2) := by decide +kernel
theorem dX9_init_71 : decode cX9_init 71 = .ok (.newarray .int, 2) := by decide +kernel
theorem dX9_init_73 : decode cX9_init 73 = .ok (.putfield 34, 3) := by decide +kernel
theorem dX9_init_76 : decode cX9_init 76 = .ok (.aload_n 0, 1) := by decide +kernel
theorem dX9_init_77 : decode cX9_init 77 = .ok (.bipush 8, 2) := by decide +kernel
theorem dX9_init_79 : decode cX9_init 79 = .ok (.newarray .int, 2) := by decide +kernel
theorem dX9_init_81 : decode cX9_init 81 = .ok (.putfield 37, 3) := by decide +kernel
theorem dX9_init_84 : decode cX9_init 84 = .ok (.aload_n 0, 1) := by decide +kernel
theorem dX9_init_85 : decode cX9_init 85 = .ok (.bipush 8, 2) := by decide +kernel
theorem dX9_init_87 : decode cX9_init 87 = .ok (.newarray .int, 2) := by decide +kernel
theorem dX9_init_89 : decode cX9_init 89 = .ok (.putfield 40, 3) := by decide +kernel
theorem dX9_init_92 : decode cX9_init 92 = .ok (.aload_n 0, 1) := by decide +kernel
theorem dX9_init_93 : decode cX9_init 93 = .ok (.sipush 480, 3) := by decide +kernel
theorem dX9_init_96 : decode cX9_init 96 = .ok (.newarray .int, 2) := by decide +kernel
theorem dX9_init_98 : decode cX9_init 98 = .ok (.putfield 43, 3) := by decide +kernel
theorem dX9_init_101 : decode cX9_init 101 = .ok (.aload_n 0, 1) := by decide +kernel
theorem dX9_init_102 : decode cX9_init 102 = .ok (.iconst 2, 1) := by decide +kernel
theorem dX9_init_103 : decode cX9_init 103 = .ok (.newarray .boolean, 2) := by decide +kernel
theorem dX9_init_105 : decode cX9_init 105 = .ok (.putfield 46, 3) := by decide +kernel
theorem dX9_init_108 : decode cX9_init 108 = .ok (.aload_n 0, 1) := by decide +kernel
theorem dX9_init_109 : decode cX9_init 109 = .ok (.bipush 20, 2) := by decide +kernel
theorem dX9_init_111 : decode cX9_init 111 = .ok (.putfield 50, 3) := by decide +kernel
theorem dX9_init_114 : decode cX9_init 114 = .ok (.aload_n 0, 1) := by decide +kernel
theorem dX9_init_115 : decode cX9_init 115 = .ok (.iconst 2, 1) := by decide +kernel
theorem dX9_init_116 : decode cX9_init 116 = .ok (.putfield 54, 3) := by decide +kernel
theorem dX9_init_119 : decode cX9_init 119 = .ok (.aload_n 0, 1) := by decide +kernel
theorem dX9_init_120 : decode cX9_init 120 = .ok (.iconst 3, 1) := by decide +kernel
theorem dX9_init_121 : decode cX9_init 121 = .ok (.putfield 57, 3) := by decide +kernel
theorem dX9_init_124 : decode cX9_init 124 = .ok (.aload_n 0, 1) := by decide +kernel
theorem dX9_init_125 : decode cX9_init 125 = .ok (.bipush 10, 2) := by decide +kernel
theorem dX9_init_127 : decode cX9_init 127 = .ok (.putfield 60, 3) := by decide +kernel
theorem dX9_init_130 : decode cX9_init 130 = .ok (.aload_n 0, 1) := by decide +kernel
theorem dX9_init_131 : decode cX9_init 131 = .ok (.iconst (-1), 1) := by decide +kernel
theorem dX9_init_132 : decode cX9_init 132 = .ok (.putfield 63, 3) := by decide +kernel
theorem dX9_init_135 : decode cX9_init 135 = .ok (.aload_n 0, 1) := by decide +kernel
theorem dX9_init_136 : decode cX9_init 136 = .ok (.iconst 4, 1) := by decide +kernel
theorem dX9_init_137 : decode cX9_init 137 = .ok (.invokevirtual 66, 3) := by decide +kernel
theorem dX9_init_140 : decode cX9_init 140 = .ok (.return_, 1) := by decide +kernel
theorem dX9_in_0 : decode cX9_in 0 = .ok (.lload_n 0, 1) := by decide +kernel
theorem dX9_in_1 : decode cX9_in 1 = .ok (.lload_n 2, 1) := by decide +kernel
theorem dX9_in_2 : decode cX9_in 2 = .ok (.lcmp, 1) := by decide +kernel
theorem dX9_in_3 : decode cX9_in 3 = .ok (.ifCond .lt 14, 3) := by decide +kernel
theorem dX9_in_6 : decode cX9_in 6 = .ok (.lload_n 0, 1) := by decide +kernel
theorem dX9_in_7 : decode cX9_in 7 = .ok (.lload 4, 2) := by decide +kernel
theorem dX9_in_9 : decode cX9_in 9 = .ok (.lcmp, 1) := by decide +kernel
theorem dX9_in_10 : decode cX9_in 10 = .ok (.ifCond .gt 7, 3) := by decide +kernel
theorem dX9_in_13 : decode cX9_in 13 = .ok (.iconst 1, 1) := by decide +kernel
theorem dX9_in_14 : decode cX9_in 14 = .ok (.goto 4, 3) := by decide +kernel
theorem dX9_in_17 : decode cX9_in 17 = .ok (.iconst 0, 1) := by decide +kernel
theorem dX9_in_18 : decode cX9_in 18 = .ok (.ireturn, 1) := by decide +kernel
theorem dX9_ones_0 : decode cX9_ones 0 = .ok (.iconst 0, 1) := by decide +kernel
theorem dX9_ones_1 : decode cX9_ones 1 = .ok (.istore_n 1, 1) := by decide +kernel
theorem dX9_ones_2 : decode cX9_ones 2 = .ok (.iload_n 0, 1) := by decide +kernel
theorem dX9_ones_3 : decode cX9_ones 3 = .ok (.istore_n 2, 1) := by decide +kernel
theorem dX9_ones_4 : decode cX9_ones 4 = .ok (.iload_n 2, 1) := by decide +kernel
theorem dX9_ones_5 : decode cX9_ones 5 = .ok (.ifCond .eq 15, 3) := by decide +kernel
theorem dX9_ones_8 : decode cX9_ones 8 = .ok (.iinc 1 1, 3) := by decide +kernel
theorem dX9_ones_11 : decode cX9_ones 11 = .ok (.iload_n 2, 1) := by decide +kernel
theorem dX9_ones_12 : decode cX9_ones 12 = .ok (.iload_n 2, 1) := by decide +kernel
theorem dX9_ones_13 : decode cX9_ones 13 = .ok (.iconst 1, 1) := by decide +kernel
theorem dX9_ones_14 : decode cX9_ones 14 = .ok (.isub, 1) := by decide +kernel
theorem dX9_ones_15 : decode cX9_ones 15 = .ok (.iand, 1) := by decide +kernel
theorem dX9_ones_16 : decode cX9_ones 16 = .ok (.istore_n 2, 1) := by decide +kernel
theorem dX9_ones_17 : decode cX9_ones 17 = .ok (.goto (-13), 3) := by decide +kernel
theorem dX9_ones_20 : decode cX9_ones 20 = .ok (.iload_n 1, 1) := by decide +kernel
theorem dX9_ones_21 : decode cX9_ones 21 = .ok (.ireturn, 1) := by decide +kernel
theorem dX9_begin_0 : decode cX9_begin 0 = .ok (.aload_n 0, 1) := by decide +kernel
theorem dX9_begin_1 : decode cX9_begin 1 = .ok (.iload_n 1, 1) := by decide +kernel
theorem dX9_begin_2 : decode cX9_begin 2 = .ok (.putfield 70, 3) := by decide +kernel
theorem dX9_begin_5 : decode cX9_begin 5 = .ok (.aload_n 0, 1) := by decide +kernel
theorem dX9_begin_6 : decode cX9_begin 6 = .ok (.iconst 0, 1) := by decide +kernel
theorem dX9_begin_7 : decode cX9_begin 7 = .ok (.putfield 73, 3) := by decide +kernel
theorem dX9_begin_10 : decode cX9_begin 10 = .ok (.aload_n 0, 1) := by decide +kernel
theorem dX9_begin_11 : decode cX9_begin 11 = .ok (.bipush (-6), 2) := by decide +kernel
theorem dX9_begin_13 : decode cX9_begin 13 = .ok (.putfield 76, 3) := by decide +kernel
theorem dX9_begin_16 : decode cX9_begin 16 = .ok (.aload_n 0, 1) := by decide +kernel
theorem dX9_begin_17 : decode cX9_begin 17 = .ok (.iconst 0, 1) := by decide +kernel
theorem dX9_begin_18 : decode cX9_begin 18 = .ok (.putfield 79, 3) := by decide +kernel
theorem dX9_begin_21 : decode cX9_begin 21 = .ok (.iconst 0, 1) := by decide +kernel
theorem dX9_begin_22 : decode cX9_begin 22 = .ok (.istore_n 2, 1) := by decide +kernel
theorem dX9_begin_23 : decode cX9_begin 23 = .ok (.iload_n 2, 1) := by decide +kernel
theorem dX9_begin_24 : decode cX9_begin 24 = .ok (.bipush 8, 2) := by decide +kernel
theorem dX9_begin_26 : decode cX9_begin 26 = .ok (.if_icmp .ge 47, 3) := by decide +kernel
theorem dX9_begin_29 : decode cX9_begin 29 = .ok (.aload_n 0, 1) := by decide +kernel
theorem dX9_begin_30 : decode cX9_begin 30 = .ok (.getfield 13, 3) := by decide +kernel
theorem dX9_begin_33 : decode cX9_begin 33 = .ok (.iload_n 2, 1) := by decide +kernel
theorem dX9_begin_34 : decode cX9_begin 34 = .ok (.bipush 30, 2) := by decide +kernel
theorem dX9_begin_36 : decode cX9_begin 36 = .ok (.iastore, 1) := by decide +kernel
theorem dX9_begin_37 : decode cX9_begin 37 = .ok (.aload_n 0, 1) := by decide +kernel
theorem dX9_begin_38 : decode cX9_begin 38 = .ok (.getfield 16, 3) := by decide +kernel
theorem dX9_begin_41 : decode cX9_begin 41 = .ok (.iload_n 2, 1) := by decide +kernel
theorem dX9_begin_42 : decode cX9_begin 42 = .ok (.iconst 2, 1) := by decide +kernel
theorem dX9_begin_43 : decode cX9_begin 43 = .ok (.iastore, 1) := by decide +kernel
theorem dX9_begin_44 : decode cX9_begin 44 = .ok (.aload_n 0, 1) := by decide +kernel
theorem dX9_begin_45 : decode cX9_begin 45 = .ok (.getfield 19, 3) := by decide +kernel
theorem dX9_begin_48 : decode cX9_begin 48 = .ok (.iload_n 2, 1) := by decide +kernel
theorem dX9_begin_49 : decode cX9_begin 49 = .ok (.iconst 0, 1) := by decide +kernel
theorem dX9_begin_50 : decode cX9_begin 50 = .ok (.iastore, 1) := by decide +kernel
theorem dX9_begin_51 : decode cX9_begin 51 = .ok (.aload_n 0, 1) := by decide +kernel
theorem dX9_begin_52 : decode cX9_begin 52 = .ok (.getfield 22, 3) := by decide +kernel
theorem dX9_begin_55 : decode cX9_begin 55 = .ok (.iload_n 2, 1) := by decide +kernel
theorem dX9_begin_56 : decode cX9_begin 56 = .ok (.iconst 1, 1) := by decide +kernel
theorem dX9_begin_57 : decode cX9_begin 57 = .ok (.iastore, 1) := by decide +kernel
theorem dX9_begin_58 : decode cX9_begin 58 = .ok (.aload_n 0, 1) := by decide +kernel
theorem dX9_begin_59 : decode cX9_begin 59 = .ok (.getfield 25, 3) := by decide +kernel
theorem dX9_begin_62 : decode cX9_begin 62 = .ok (.iload_n 2, 1) := by decide +kernel
theorem dX9_begin_63 : decode cX9_begin 63 = .ok (.sipush 170, 3) := by decide +kernel
theorem dX9_begin_66 : decode cX9_begin 66 = .ok (.iastore, 1) := by decide +kernel
theorem dX9_begin_67 : decode cX9_begin 67 = .ok (.iinc 2 1, 3) := by decide +kernel
theorem dX9_begin_70 : decode cX9_begin 70 = .ok (.goto (-47), 3) := by decide +kernel
theorem dX9_begin_73 : decode cX9_begin 73 = .ok (.iconst 0, 1) := by decide +kernel
theorem dX9_begin_74 : decode cX9_begin 74 = .ok (.istore_n 2, 1) := by decide +kernel
theorem dX9_begin_75 : decode cX9_begin 75 = .ok (.iload_n 2, 1) := by decide +kernel
theorem dX9_begin_76 : decode cX9_begin 76 = .ok (.bipush 64, 2) := by decide +kernel
theorem dX9_begin_78 : decode cX9_begin 78 = .ok (.if_icmp .ge 16, 3) := by decide +kernel
theorem dX9_begin_81 : decode cX9_begin 81 = .ok (.aload_n 0, 1) := by decide +kernel
theorem dX9_begin_82 : decode cX9_begin 82 = .ok (.getfield 28, 3) := by decide +kernel
theorem dX9_begin_85 : decode cX9_begin 85 = .ok (.iload_n 2, 1) := by decide +kernel
theorem dX9_begin_86 : decode cX9_begin 86 = .ok (.iconst 0, 1) := by decide +kernel
theorem dX9_begin_87 : decode cX9_begin 87 = .ok (.iastore, 1) := by decide +kernel
theorem dX9_begin_88 : decode cX9_begin 88 = .ok (.iinc 2 1, 3) := by decide +kernel
theorem dX9_begin_91 : decode cX9_begin 91 = .ok (.goto (-16), 3) := by decide +kernel
theorem dX9_begin_94 : decode cX9_begin 94 = .ok (.return_, 1) := by decide +kernel
theorem dX9_isPerson_0 : decode cX9_isPerson 0 = .ok (.iload_n 1, 1) := by decide +kernel
theorem dX9_isPerson_1 : decode cX9_isPerson 1 = .ok (.i2l, 1) := by decide +kernel
theorem dX9_isPerson_2 : decode cX9_isPerson 2 = .ok (.lconst 0, 1) := by decide +kernel
theorem dX9_isPerson_3 : decode cX9_isPerson 3 = .ok (.aload_n 0, 1) := by decide +kernel
theorem dX9_isPerson_4 : decode cX9_isPerson 4 = .ok (.getfield 70, 3) := by decide +kernel
theorem dX9_isPerson_7 : decode cX9_isPerson 7 = .ok (.iconst 1, 1) := by decide +kernel
theorem dX9_isPerson_8 : decode cX9_isPerson 8 = .ok (.isub, 1) := by decide +kernel
theorem dX9_isPerson_9 : decode cX9_isPerson 9 = .ok (.i2l, 1) := by decide +kernel
theorem dX9_isPerson_10 : decode cX9_isPerson 10 = .ok (.invokestatic 82, 3) := by decide +kernel
theorem dX9_isPerson_13 : decode cX9_isPerson 13 = .ok (.ireturn, 1) := by decide +kernel
theorem dX9_people_0 : decode cX9_people 0 = .ok (.iload_n 1, 1) := by decide +kernel
theorem dX9_people_1 : decode cX9_people 1 = .ok (.i2l, 1) := by decide +kernel
theorem dX9_people_2 : decode cX9_people 2 = .ok (.lconst 1, 1) := by decide +kernel
theorem dX9_people_3 : decode cX9_people 3 = .ok (.ldc2_w 86, 3) := by decide +kernel
theorem dX9_people_6 : decode cX9_people 6 = .ok (.invokestatic 82, 3) := by decide +kernel
theorem dX9_people_9 : decode cX9_people 9 = .ok (.ifCond .ne 6, 3) := by decide +kernel
theorem dX9_people_12 : decode cX9_people 12 = .ok (.bipush (-2), 2) := by decide +kernel
theorem dX9_people_14 : decode cX9_people 14 = .ok (.ireturn, 1) := by decide +kernel
theorem dX9_people_15 : decode cX9_people 15 = .ok (.aload_n 0, 1) := by decide +kernel
theorem dX9_people_16 : decode cX9_people 16 = .ok (.getfield 70, 3) := by decide +kernel
theorem dX9_people_19 : decode cX9_people 19 = .ok (.istore_n 2, 1) := by decide +kernel
theorem dX9_people_20 : decode cX9_people 20 = .ok (.aload_n 0, 1) := by decide +kernel
theorem dX9_people_21 : decode cX9_people 21 = .ok (.iload_n 1, 1) := by decide +kernel
theorem dX9_people_22 : decode cX9_people 22 = .ok (.invokevirtual 66, 3) := by decide +kernel
theorem dX9_people_25 : decode cX9_people 25 = .ok (.iload_n 2, 1) := by decide +kernel
theorem dX9_people_26 : decode cX9_people 26 = .ok (.ireturn, 1) := by decide +kernel
theorem dX9_bride_0 : decode cX9_bride 0 = .ok (.iload_n 1, 1) := by decide +kernel
theorem dX9_bride_1 : decode cX9_bride 1 = .ok (.iconst (-1), 1) := by decide +kernel
theorem dX9_bride_2 : decode cX9_bride 2 = .ok (.if_icmp .eq 13, 3) := by decide +kernel
theorem dX9_bride_5 : decode cX9_bride 5 = .ok (.aload_n 0, 1) := by decide +kernel
theorem dX9_bride_6 : decode cX9_bride 6 = .ok (.iload_n 1, 1) := by decide +kernel
theorem dX9_bride_7 : decode cX9_bride 7 = .ok (.invokevirtual 88, 3) := by decide +kernel
theorem dX9_bride_10 : decode cX9_bride 10 = .ok (.ifCond .ne 5, 3) := by decide +kernel
theorem dX9_bride_13 : decode cX9_bride 13 = .ok (.iconst (-1), 1) := by decide +kernel
theorem dX9_bride_14 : decode cX9_bride 14 = .ok (.ireturn, 1) := by decide +kernel
theorem dX9_bride_15 : decode cX9_bride 15 = .ok (.aload_n 0, 1) := by decide +kernel
theorem dX9_bride_16 : decode cX9_bride 16 = .ok (.getfield 76, 3) := by decide +kernel
theorem dX9_bride_19 : decode cX9_bride 19 = .ok (.istore_n 2, 1) := by decide +kernel
theorem dX9_bride_20 : decode cX9_bride 20 = .ok (.aload_n 0, 1) := by decide +kernel
theorem dX9_bride_21 : decode cX9_bride 21 = .ok (.iload_n 1, 1) := by decide +kernel
theorem dX9_bride_22 : decode cX9_bride 22 = .ok (.iconst (-1), 1) := by decide +kernel
theorem dX9_bride_23 : decode cX9_bride 23 = .ok (.if_icmp .ne 8, 3) := by decide +kernel
theorem dX9_bride_26 : decode cX9_bride 26 = .ok (.bipush (-6), 2) := by decide +kernel
theorem dX9_bride_28 : decode cX9_bride 28 = .ok (.goto 4, 3) := by decide +kernel
theorem dX9_bride_31 : decode cX9_bride 31 = .ok (.iload_n 1, 1) := by decide +kernel
theorem dX9_bride_32 : decode cX9_bride 32 = .ok (.putfield 76, 3) := by decide +kernel
theorem dX9_bride_35 : decode cX9_bride 35 = .ok (.iload_n 2, 1) := by decide +kernel
theorem dX9_bride_36 : decode cX9_bride 36 = .ok (.ireturn, 1) := by decide +kernel
theorem dX9_say_0 : decode cX9_say 0 = .ok (.iload_n 1, 1) := by decide +kernel
theorem dX9_say_1 : decode cX9_say 1 = .ok (.i2l, 1) := by decide +kernel
theorem dX9_say_2 : decode cX9_say 2 = .ok (.ldc2_w 92, 3) := by decide +kernel
theorem dX9_say_5 : decode cX9_say 5 = .ok (.ldc2_w 94, 3) := by decide +kernel
theorem dX9_say_8 : decode cX9_say 8 = .ok (.invokestatic 82, 3) := by decide +kernel
theorem dX9_say_11 : decode cX9_say 11 = .ok (.ifCond .ne 6, 3) := by decide +kernel
theorem dX9_say_14 : decode cX9_say 14 = .ok (.bipush (-2), 2) := by decide +kernel
theorem dX9_say_16 : decode cX9_say 16 = .ok (.ireturn, 1) := by decide +kernel
theorem dX9_say_17 : decode cX9_say 17 = .ok (.aload_n 0, 1) := by decide +kernel
theorem dX9_say_18 : decode cX9_say 18 = .ok (.getfield 96, 3) := by decide +kernel
theorem dX9_say_21 : decode cX9_say 21 = .ok (.bipush 40, 2) := by decide +kernel
theorem dX9_say_23 : decode cX9_say 23 = .ok (.if_icmp .ne 6, 3) := by decide +kernel
theorem dX9_say_26 : decode cX9_say 26 = .ok (.bipush (-4), 2) := by decide +kernel
theorem dX9_say_28 : decode cX9_say 28 = .ok (.ireturn, 1) := by decide +kernel
theorem dX9_say_29 : decode cX9_say 29 = .ok (.aload_n 0, 1) := by decide +kernel
theorem dX9_say_30 : decode cX9_say 30 = .ok (.getfield 31, 3) := by decide +kernel
theorem dX9_say_33 : decode cX9_say 33 = .ok (.aload_n 0, 1) := by decide +kernel
theorem dX9_say_34 : decode cX9_say 34 = .ok (.getfield 96, 3) := by decide +kernel
theorem dX9_say_37 : decode cX9_say 37 = .ok (.iload_n 1, 1) := by decide +kernel
theorem dX9_say_38 : decode cX9_say 38 = .ok (.iastore, 1) := by decide +kernel
theorem dX9_say_39 : decode cX9_say 39 = .ok (.aload_n 0, 1) := by decide +kernel
theorem dX9_say_40 : decode cX9_say 40 = .ok (.dup, 1) := by decide +kernel
theorem dX9_say_41 : decode cX9_say 41 = .ok (.getfield 96, 3) := by decide +kernel
theorem dX9_say_44 : decode cX9_say 44 = .ok (.iconst 1, 1) := by decide +kernel
theorem dX9_say_45 : decode cX9_say 45 = .ok (.iadd, 1) := by decide +kernel
