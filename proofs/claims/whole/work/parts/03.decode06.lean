theorem dX9_fewestCuts_33 : decode cX9_fewestCuts 33 = .ok (.iload_n 1, 1) := by decide +kernel
theorem dX9_fewestCuts_34 : decode cX9_fewestCuts 34 = .ok (.istore_n 1, 1) := by decide +kernel
theorem dX9_fewestCuts_35 : decode cX9_fewestCuts 35 = .ok (.iinc 2 1, 3) := by decide +kernel
theorem dX9_fewestCuts_38 : decode cX9_fewestCuts 38 = .ok (.goto (-32), 3) := by decide +kernel
theorem dX9_fewestCuts_41 : decode cX9_fewestCuts 41 = .ok (.iload_n 1, 1) := by decide +kernel
theorem dX9_fewestCuts_42 : decode cX9_fewestCuts 42 = .ok (.ireturn, 1) := by decide +kernel
theorem dX9_heads_0 : decode cX9_heads 0 = .ok (.aload_n 0, 1) := by decide +kernel
theorem dX9_heads_1 : decode cX9_heads 1 = .ok (.invokevirtual 133, 3) := by decide +kernel
theorem dX9_heads_4 : decode cX9_heads 4 = .ok (.aload_n 0, 1) := by decide +kernel
theorem dX9_heads_5 : decode cX9_heads 5 = .ok (.invokevirtual 136, 3) := by decide +kernel
theorem dX9_heads_8 : decode cX9_heads 8 = .ok (.istore_n 2, 1) := by decide +kernel
theorem dX9_heads_9 : decode cX9_heads 9 = .ok (.iload_n 2, 1) := by decide +kernel
theorem dX9_heads_10 : decode cX9_heads 10 = .ok (.sipush 1000, 3) := by decide +kernel
theorem dX9_heads_13 : decode cX9_heads 13 = .ok (.if_icmp .lt 6, 3) := by decide +kernel
theorem dX9_heads_16 : decode cX9_heads 16 = .ok (.bipush (-6), 2) := by decide +kernel
theorem dX9_heads_18 : decode cX9_heads 18 = .ok (.ireturn, 1) := by decide +kernel
theorem dX9_heads_19 : decode cX9_heads 19 = .ok (.iload_n 1, 1) := by decide +kernel
theorem dX9_heads_20 : decode cX9_heads 20 = .ok (.iconst (-1), 1) := by decide +kernel
theorem dX9_heads_21 : decode cX9_heads 21 = .ok (.if_icmp .ne 5, 3) := by decide +kernel
theorem dX9_heads_24 : decode cX9_heads 24 = .ok (.iload_n 2, 1) := by decide +kernel
theorem dX9_heads_25 : decode cX9_heads 25 = .ok (.ireturn, 1) := by decide +kernel
theorem dX9_heads_26 : decode cX9_heads 26 = .ok (.aload_n 0, 1) := by decide +kernel
theorem dX9_heads_27 : decode cX9_heads 27 = .ok (.iload_n 1, 1) := by decide +kernel
theorem dX9_heads_28 : decode cX9_heads 28 = .ok (.invokevirtual 88, 3) := by decide +kernel
theorem dX9_heads_31 : decode cX9_heads 31 = .ok (.ifCond .ne 6, 3) := by decide +kernel
theorem dX9_heads_34 : decode cX9_heads 34 = .ok (.bipush (-6), 2) := by decide +kernel
theorem dX9_heads_36 : decode cX9_heads 36 = .ok (.ireturn, 1) := by decide +kernel
theorem dX9_heads_37 : decode cX9_heads 37 = .ok (.bipush (-6), 2) := by decide +kernel
theorem dX9_heads_39 : decode cX9_heads 39 = .ok (.istore_n 3, 1) := by decide +kernel
theorem dX9_heads_40 : decode cX9_heads 40 = .ok (.iconst 0, 1) := by decide +kernel
theorem dX9_heads_41 : decode cX9_heads 41 = .ok (.istore 4, 2) := by decide +kernel
theorem dX9_heads_43 : decode cX9_heads 43 = .ok (.iload 4, 2) := by decide +kernel
theorem dX9_heads_45 : decode cX9_heads 45 = .ok (.iload_n 1, 1) := by decide +kernel
theorem dX9_heads_46 : decode cX9_heads 46 = .ok (.if_icmp .gt 52, 3) := by decide +kernel
theorem dX9_heads_49 : decode cX9_heads 49 = .ok (.iconst 0, 1) := by decide +kernel
theorem dX9_heads_50 : decode cX9_heads 50 = .ok (.istore 5, 2) := by decide +kernel
theorem dX9_heads_52 : decode cX9_heads 52 = .ok (.aload_n 0, 1) := by decide +kernel
theorem dX9_heads_53 : decode cX9_heads 53 = .ok (.iload 4, 2) := by decide +kernel
theorem dX9_heads_55 : decode cX9_heads 55 = .ok (.iload 5, 2) := by decide +kernel
theorem dX9_heads_57 : decode cX9_heads 57 = .ok (.iload_n 3, 1) := by decide +kernel
theorem dX9_heads_58 : decode cX9_heads 58 = .ok (.iload_n 2, 1) := by decide +kernel
theorem dX9_heads_59 : decode cX9_heads 59 = .ok (.invokevirtual 139, 3) := by decide +kernel
theorem dX9_heads_62 : decode cX9_heads 62 = .ok (.ifCond .ne 9, 3) := by decide +kernel
theorem dX9_heads_65 : decode cX9_heads 65 = .ok (.iinc 5 1, 3) := by decide +kernel
theorem dX9_heads_68 : decode cX9_heads 68 = .ok (.goto (-16), 3) := by decide +kernel
theorem dX9_heads_71 : decode cX9_heads 71 = .ok (.iload_n 2, 1) := by decide +kernel
theorem dX9_heads_72 : decode cX9_heads 72 = .ok (.iload_n 3, 1) := by decide +kernel
theorem dX9_heads_73 : decode cX9_heads 73 = .ok (.ifCond .lt 13, 3) := by decide +kernel
theorem dX9_heads_76 : decode cX9_heads 76 = .ok (.iload 5, 2) := by decide +kernel
theorem dX9_heads_78 : decode cX9_heads 78 = .ok (.iload_n 3, 1) := by decide +kernel
theorem dX9_heads_79 : decode cX9_heads 79 = .ok (.if_icmp .eq 7, 3) := by decide +kernel
theorem dX9_heads_82 : decode cX9_heads 82 = .ok (.iconst 1, 1) := by decide +kernel
theorem dX9_heads_83 : decode cX9_heads 83 = .ok (.goto 4, 3) := by decide +kernel
theorem dX9_heads_86 : decode cX9_heads 86 = .ok (.iconst 0, 1) := by decide +kernel
theorem dX9_heads_87 : decode cX9_heads 87 = .ok (.isub, 1) := by decide +kernel
theorem dX9_heads_88 : decode cX9_heads 88 = .ok (.istore_n 2, 1) := by decide +kernel
theorem dX9_heads_89 : decode cX9_heads 89 = .ok (.iload 5, 2) := by decide +kernel
theorem dX9_heads_91 : decode cX9_heads 91 = .ok (.istore_n 3, 1) := by decide +kernel
theorem dX9_heads_92 : decode cX9_heads 92 = .ok (.iinc 4 1, 3) := by decide +kernel
theorem dX9_heads_95 : decode cX9_heads 95 = .ok (.goto (-52), 3) := by decide +kernel
theorem dX9_heads_98 : decode cX9_heads 98 = .ok (.iload_n 3, 1) := by decide +kernel
theorem dX9_heads_99 : decode cX9_heads 99 = .ok (.ireturn, 1) := by decide +kernel
theorem dX9_goesOn_0 : decode cX9_goesOn 0 = .ok (.iload_n 3, 1) := by decide +kernel
theorem dX9_goesOn_1 : decode cX9_goesOn 1 = .ok (.ifCond .lt 12, 3) := by decide +kernel
theorem dX9_goesOn_4 : decode cX9_goesOn 4 = .ok (.iload_n 2, 1) := by decide +kernel
theorem dX9_goesOn_5 : decode cX9_goesOn 5 = .ok (.iload_n 3, 1) := by decide +kernel
theorem dX9_goesOn_6 : decode cX9_goesOn 6 = .ok (.if_icmp .eq 7, 3) := by decide +kernel
theorem dX9_goesOn_9 : decode cX9_goesOn 9 = .ok (.iconst 1, 1) := by decide +kernel
theorem dX9_goesOn_10 : decode cX9_goesOn 10 = .ok (.goto 4, 3) := by decide +kernel
theorem dX9_goesOn_13 : decode cX9_goesOn 13 = .ok (.iconst 0, 1) := by decide +kernel
theorem dX9_goesOn_14 : decode cX9_goesOn 14 = .ok (.istore 5, 2) := by decide +kernel
theorem dX9_goesOn_16 : decode cX9_goesOn 16 = .ok (.iload 5, 2) := by decide +kernel
theorem dX9_goesOn_18 : decode cX9_goesOn 18 = .ok (.ifCond .eq 16, 3) := by decide +kernel
theorem dX9_goesOn_21 : decode cX9_goesOn 21 = .ok (.aload_n 0, 1) := by decide +kernel
theorem dX9_goesOn_22 : decode cX9_goesOn 22 = .ok (.getfield 79, 3) := by decide +kernel
theorem dX9_goesOn_25 : decode cX9_goesOn 25 = .ok (.iload_n 1, 1) := by decide +kernel
theorem dX9_goesOn_26 : decode cX9_goesOn 26 = .ok (.iconst 1, 1) := by decide +kernel
theorem dX9_goesOn_27 : decode cX9_goesOn 27 = .ok (.isub, 1) := by decide +kernel
theorem dX9_goesOn_28 : decode cX9_goesOn 28 = .ok (.ishr, 1) := by decide +kernel
theorem dX9_goesOn_29 : decode cX9_goesOn 29 = .ok (.iconst 1, 1) := by decide +kernel
theorem dX9_goesOn_30 : decode cX9_goesOn 30 = .ok (.iand, 1) := by decide +kernel
theorem dX9_goesOn_31 : decode cX9_goesOn 31 = .ok (.ifCond .ne 7, 3) := by decide +kernel
theorem dX9_goesOn_34 : decode cX9_goesOn 34 = .ok (.iconst 1, 1) := by decide +kernel
theorem dX9_goesOn_35 : decode cX9_goesOn 35 = .ok (.goto 4, 3) := by decide +kernel
theorem dX9_goesOn_38 : decode cX9_goesOn 38 = .ok (.iconst 0, 1) := by decide +kernel
theorem dX9_goesOn_39 : decode cX9_goesOn 39 = .ok (.istore 6, 2) := by decide +kernel
theorem dX9_goesOn_41 : decode cX9_goesOn 41 = .ok (.iload 6, 2) := by decide +kernel
theorem dX9_goesOn_43 : decode cX9_goesOn 43 = .ok (.ifCond .eq 34, 3) := by decide +kernel
theorem dX9_goesOn_46 : decode cX9_goesOn 46 = .ok (.aload_n 0, 1) := by decide +kernel
theorem dX9_goesOn_47 : decode cX9_goesOn 47 = .ok (.getfield 34, 3) := by decide +kernel
theorem dX9_goesOn_50 : decode cX9_goesOn 50 = .ok (.bipush 10, 2) := by decide +kernel
theorem dX9_goesOn_52 : decode cX9_goesOn 52 = .ok (.iload_n 1, 1) := by decide +kernel
theorem dX9_goesOn_53 : decode cX9_goesOn 53 = .ok (.imul, 1) := by decide +kernel
theorem dX9_goesOn_54 : decode cX9_goesOn 54 = .ok (.iload_n 2, 1) := by decide +kernel
theorem dX9_goesOn_55 : decode cX9_goesOn 55 = .ok (.iadd, 1) := by decide +kernel
theorem dX9_goesOn_56 : decode cX9_goesOn 56 = .ok (.iaload, 1) := by decide +kernel
theorem dX9_goesOn_57 : decode cX9_goesOn 57 = .ok (.iload 5, 2) := by decide +kernel
theorem dX9_goesOn_59 : decode cX9_goesOn 59 = .ok (.ifCond .eq 7, 3) := by decide +kernel
theorem dX9_goesOn_62 : decode cX9_goesOn 62 = .ok (.iconst 1, 1) := by decide +kernel
theorem dX9_goesOn_63 : decode cX9_goesOn 63 = .ok (.goto 4, 3) := by decide +kernel
theorem dX9_goesOn_66 : decode cX9_goesOn 66 = .ok (.iconst 0, 1) := by decide +kernel
theorem dX9_goesOn_67 : decode cX9_goesOn 67 = .ok (.iadd, 1) := by decide +kernel
theorem dX9_goesOn_68 : decode cX9_goesOn 68 = .ok (.iload 4, 2) := by decide +kernel
theorem dX9_goesOn_70 : decode cX9_goesOn 70 = .ok (.if_icmp .ne 7, 3) := by decide +kernel
theorem dX9_goesOn_73 : decode cX9_goesOn 73 = .ok (.iconst 1, 1) := by decide +kernel
theorem dX9_goesOn_74 : decode cX9_goesOn 74 = .ok (.goto 4, 3) := by decide +kernel
theorem dX9_goesOn_77 : decode cX9_goesOn 77 = .ok (.iconst 0, 1) := by decide +kernel
theorem dX9_goesOn_78 : decode cX9_goesOn 78 = .ok (.ireturn, 1) := by decide +kernel
theorem dX9_left_0 : decode cX9_left 0 = .ok (.aload_n 0, 1) := by decide +kernel
theorem dX9_left_1 : decode cX9_left 1 = .ok (.getfield 73, 3) := by decide +kernel
theorem dX9_left_4 : decode cX9_left 4 = .ok (.ifCond .ne 6, 3) := by decide +kernel
theorem dX9_left_7 : decode cX9_left 7 = .ok (.bipush (-6), 2) := by decide +kernel
theorem dX9_left_9 : decode cX9_left 9 = .ok (.ireturn, 1) := by decide +kernel
theorem dX9_left_10 : decode cX9_left 10 = .ok (.iconst 0, 1) := by decide +kernel
theorem dX9_left_11 : decode cX9_left 11 = .ok (.istore_n 1, 1) := by decide +kernel
theorem dX9_left_12 : decode cX9_left 12 = .ok (.iconst 0, 1) := by decide +kernel
theorem dX9_left_13 : decode cX9_left 13 = .ok (.istore_n 2, 1) := by decide +kernel
theorem dX9_left_14 : decode cX9_left 14 = .ok (.iconst 0, 1) := by decide +kernel
theorem dX9_left_15 : decode cX9_left 15 = .ok (.istore_n 3, 1) := by decide +kernel
theorem dX9_left_16 : decode cX9_left 16 = .ok (.iload_n 3, 1) := by decide +kernel
theorem dX9_left_17 : decode cX9_left 17 = .ok (.aload_n 0, 1) := by decide +kernel
theorem dX9_left_18 : decode cX9_left 18 = .ok (.getfield 70, 3) := by decide +kernel
theorem dX9_left_21 : decode cX9_left 21 = .ok (.if_icmp .ge 55, 3) := by decide +kernel
theorem dX9_left_24 : decode cX9_left 24 = .ok (.iload_n 3, 1) := by decide +kernel
theorem dX9_left_25 : decode cX9_left 25 = .ok (.aload_n 0, 1) := by decide +kernel
theorem dX9_left_26 : decode cX9_left 26 = .ok (.getfield 70, 3) := by decide +kernel
theorem dX9_left_29 : decode cX9_left 29 = .ok (.iconst 1, 1) := by decide +kernel
theorem dX9_left_30 : decode cX9_left 30 = .ok (.isub, 1) := by decide +kernel
theorem dX9_left_31 : decode cX9_left 31 = .ok (.if_icmp .eq 14, 3) := by decide +kernel
theorem dX9_left_34 : decode cX9_left 34 = .ok (.aload_n 0, 1) := by decide +kernel
theorem dX9_left_35 : decode cX9_left 35 = .ok (.getfield 79, 3) := by decide +kernel
theorem dX9_left_38 : decode cX9_left 38 = .ok (.iload_n 3, 1) := by decide +kernel
theorem dX9_left_39 : decode cX9_left 39 = .ok (.ishr, 1) := by decide +kernel
theorem dX9_left_40 : decode cX9_left 40 = .ok (.iconst 1, 1) := by decide +kernel
theorem dX9_left_41 : decode cX9_left 41 = .ok (.iand, 1) := by decide +kernel
theorem dX9_left_42 : decode cX9_left 42 = .ok (.ifCond .ne 7, 3) := by decide +kernel
theorem dX9_left_45 : decode cX9_left 45 = .ok (.iconst 1, 1) := by decide +kernel
theorem dX9_left_46 : decode cX9_left 46 = .ok (.goto 4, 3) := by decide +kernel
theorem dX9_left_49 : decode cX9_left 49 = .ok (.iconst 0, 1) := by decide +kernel
theorem dX9_left_50 : decode cX9_left 50 = .ok (.istore 4, 2) := by decide +kernel
theorem dX9_left_52 : decode cX9_left 52 = .ok (.iload 4, 2) := by decide +kernel
theorem dX9_left_54 : decode cX9_left 54 = .ok (.ifCond .eq 16, 3) := by decide +kernel
theorem dX9_left_57 : decode cX9_left 57 = .ok (.iload_n 1, 1) := by decide +kernel
theorem dX9_left_58 : decode cX9_left 58 = .ok (.aload_n 0, 1) := by decide +kernel
theorem dX9_left_59 : decode cX9_left 59 = .ok (.iload_n 2, 1) := by decide +kernel
theorem dX9_left_60 : decode cX9_left 60 = .ok (.iload_n 3, 1) := by decide +kernel
theorem dX9_left_61 : decode cX9_left 61 = .ok (.invokevirtual 143, 3) := by decide +kernel
theorem dX9_left_64 : decode cX9_left 64 = .ok (.iadd, 1) := by decide +kernel
theorem dX9_left_65 : decode cX9_left 65 = .ok (.istore_n 1, 1) := by decide +kernel
theorem dX9_left_66 : decode cX9_left 66 = .ok (.iload_n 3, 1) := by decide +kernel
theorem dX9_left_67 : decode cX9_left 67 = .ok (.iconst 1, 1) := by decide +kernel
theorem dX9_left_68 : decode cX9_left 68 = .ok (.iadd, 1) := by decide +kernel
theorem dX9_left_69 : decode cX9_left 69 = .ok (.istore_n 2, 1) := by decide +kernel
theorem dX9_left_70 : decode cX9_left 70 = .ok (.iinc 3 1, 3) := by decide +kernel
theorem dX9_left_73 : decode cX9_left 73 = .ok (.goto (-57), 3) := by decide +kernel
theorem dX9_left_76 : decode cX9_left 76 = .ok (.iload_n 1, 1) := by decide +kernel
theorem dX9_left_77 : decode cX9_left 77 = .ok (.ireturn, 1) := by decide +kernel
theorem dX9_fewestBad_0 : decode cX9_fewestBad 0 = .ok (.sipush 1000, 3) := by decide +kernel
theorem dX9_fewestBad_3 : decode cX9_fewestBad 3 = .ok (.istore_n 3, 1) := by decide +kernel
theorem dX9_fewestBad_4 : decode cX9_fewestBad 4 = .ok (.iconst 0, 1) := by decide +kernel
theorem dX9_fewestBad_5 : decode cX9_fewestBad 5 = .ok (.istore 4, 2) := by decide +kernel
theorem dX9_fewestBad_7 : decode cX9_fewestBad 7 = .ok (.iload 4, 2) := by decide +kernel
theorem dX9_fewestBad_9 : decode cX9_fewestBad 9 = .ok (.aload_n 0, 1) := by decide +kernel
theorem dX9_fewestBad_10 : decode cX9_fewestBad 10 = .ok (.getfield 73, 3) := by decide +kernel
theorem dX9_fewestBad_13 : decode cX9_fewestBad 13 = .ok (.if_icmp .ge 61, 3) := by decide +kernel
theorem dX9_fewestBad_16 : decode cX9_fewestBad 16 = .ok (.iconst 0, 1) := by decide +kernel
theorem dX9_fewestBad_17 : decode cX9_fewestBad 17 = .ok (.istore 5, 2) := by decide +kernel
theorem dX9_fewestBad_19 : decode cX9_fewestBad 19 = .ok (.iload_n 1, 1) := by decide +kernel
theorem dX9_fewestBad_20 : decode cX9_fewestBad 20 = .ok (.istore 6, 2) := by decide +kernel
theorem dX9_fewestBad_22 : decode cX9_fewestBad 22 = .ok (.iload 6, 2) := by decide +kernel
theorem dX9_fewestBad_24 : decode cX9_fewestBad 24 = .ok (.iload_n 2, 1) := by decide +kernel
theorem dX9_fewestBad_25 : decode cX9_fewestBad 25 = .ok (.if_icmp .gt 30, 3) := by decide +kernel
theorem dX9_fewestBad_28 : decode cX9_fewestBad 28 = .ok (.iload 5, 2) := by decide +kernel
theorem dX9_fewestBad_30 : decode cX9_fewestBad 30 = .ok (.aload_n 0, 1) := by decide +kernel
theorem dX9_fewestBad_31 : decode cX9_fewestBad 31 = .ok (.iload 4, 2) := by decide +kernel
theorem dX9_fewestBad_33 : decode cX9_fewestBad 33 = .ok (.iload 6, 2) := by decide +kernel
theorem dX9_fewestBad_35 : decode cX9_fewestBad 35 = .ok (.invokevirtual 112, 3) := by decide +kernel
theorem dX9_fewestBad_38 : decode cX9_fewestBad 38 = .ok (.ifCond .eq 7, 3) := by decide +kernel
theorem dX9_fewestBad_41 : decode cX9_fewestBad 41 = .ok (.iconst 0, 1) := by decide +kernel
theorem dX9_fewestBad_42 : decode cX9_fewestBad 42 = .ok (.goto 4, 3) := by decide +kernel
theorem dX9_fewestBad_45 : decode cX9_fewestBad 45 = .ok (.iconst 1, 1) := by decide +kernel
theorem dX9_fewestBad_46 : decode cX9_fewestBad 46 = .ok (.iadd, 1) := by decide +kernel
theorem dX9_fewestBad_47 : decode cX9_fewestBad 47 = .ok (.istore 5, 2) := by decide +kernel
theorem dX9_fewestBad_49 : decode cX9_fewestBad 49 = .ok (.iinc 6 1, 3) := by decide +kernel
theorem dX9_fewestBad_52 : decode cX9_fewestBad 52 = .ok (.goto (-30), 3) := by decide +kernel
theorem dX9_fewestBad_55 : decode cX9_fewestBad 55 = .ok (.iload 5, 2) := by decide +kernel
theorem dX9_fewestBad_57 : decode cX9_fewestBad 57 = .ok (.iload_n 3, 1) := by decide +kernel
theorem dX9_fewestBad_58 : decode cX9_fewestBad 58 = .ok (.if_icmp .ge 8, 3) := by decide +kernel
theorem dX9_fewestBad_61 : decode cX9_fewestBad 61 = .ok (.iload 5, 2) := by decide +kernel
theorem dX9_fewestBad_63 : decode cX9_fewestBad 63 = .ok (.goto 4, 3) := by decide +kernel
theorem dX9_fewestBad_66 : decode cX9_fewestBad 66 = .ok (.iload_n 3, 1) := by decide +kernel
theorem dX9_fewestBad_67 : decode cX9_fewestBad 67 = .ok (.istore_n 3, 1) := by decide +kernel
theorem dX9_fewestBad_68 : decode cX9_fewestBad 68 = .ok (.iinc 4 1, 3) := by decide +kernel
theorem dX9_fewestBad_71 : decode cX9_fewestBad 71 = .ok (.goto (-64), 3) := by decide +kernel
theorem dX9_fewestBad_74 : decode cX9_fewestBad 74 = .ok (.iload_n 3, 1) := by decide +kernel
theorem dX9_fewestBad_75 : decode cX9_fewestBad 75 = .ok (.ireturn, 1) := by decide +kernel
theorem dX9_blink_0 : decode cX9_blink 0 = .ok (.aload_n 0, 1) := by decide +kernel
theorem dX9_blink_1 : decode cX9_blink 1 = .ok (.iload_n 1, 1) := by decide +kernel
theorem dX9_blink_2 : decode cX9_blink 2 = .ok (.invokevirtual 88, 3) := by decide +kernel
theorem dX9_blink_5 : decode cX9_blink 5 = .ok (.ifCond .ne 5, 3) := by decide +kernel
theorem dX9_blink_8 : decode cX9_blink 8 = .ok (.iconst (-1), 1) := by decide +kernel
theorem dX9_blink_9 : decode cX9_blink 9 = .ok (.ireturn, 1) := by decide +kernel
theorem dX9_blink_10 : decode cX9_blink 10 = .ok (.iload_n 2, 1) := by decide +kernel
theorem dX9_blink_11 : decode cX9_blink 11 = .ok (.ifCond .ne 35, 3) := by decide +kernel
theorem dX9_blink_14 : decode cX9_blink 14 = .ok (.iload_n 3, 1) := by decide +kernel
theorem dX9_blink_15 : decode cX9_blink 15 = .ok (.i2l, 1) := by decide +kernel
theorem dX9_blink_16 : decode cX9_blink 16 = .ok (.aload_n 0, 1) := by decide +kernel
theorem dX9_blink_17 : decode cX9_blink 17 = .ok (.getfield 16, 3) := by decide +kernel
theorem dX9_blink_20 : decode cX9_blink 20 = .ok (.iload_n 1, 1) := by decide +kernel
theorem dX9_blink_21 : decode cX9_blink 21 = .ok (.iaload, 1) := by decide +kernel
theorem dX9_blink_22 : decode cX9_blink 22 = .ok (.iconst 1, 1) := by decide +kernel
theorem dX9_blink_23 : decode cX9_blink 23 = .ok (.if_icmp .le 13, 3) := by decide +kernel
theorem dX9_blink_26 : decode cX9_blink 26 = .ok (.aload_n 0, 1) := by decide +kernel
theorem dX9_blink_27 : decode cX9_blink 27 = .ok (.getfield 16, 3) := by decide +kernel
theorem dX9_blink_30 : decode cX9_blink 30 = .ok (.iload_n 1, 1) := by decide +kernel
theorem dX9_blink_31 : decode cX9_blink 31 = .ok (.iaload, 1) := by decide +kernel
theorem dX9_blink_32 : decode cX9_blink 32 = .ok (.i2l, 1) := by decide +kernel
theorem dX9_blink_33 : decode cX9_blink 33 = .ok (.goto 4, 3) := by decide +kernel
theorem dX9_blink_36 : decode cX9_blink 36 = .ok (.lconst 1, 1) := by decide +kernel
theorem dX9_blink_37 : decode cX9_blink 37 = .ok (.ldc2_w 146, 3) := by decide +kernel
theorem dX9_blink_40 : decode cX9_blink 40 = .ok (.invokestatic 82, 3) := by decide +kernel
theorem dX9_blink_43 : decode cX9_blink 43 = .ok (.goto 46, 3) := by decide +kernel
theorem dX9_blink_46 : decode cX9_blink 46 = .ok (.iload_n 2, 1) := by decide +kernel
theorem dX9_blink_47 : decode cX9_blink 47 = .ok (.iconst 1, 1) := by decide +kernel
theorem dX9_blink_48 : decode cX9_blink 48 = .ok (.if_icmp .ne 19, 3) := by decide +kernel
theorem dX9_blink_51 : decode cX9_blink 51 = .ok (.iload_n 3, 1) := by decide +kernel
theorem dX9_blink_52 : decode cX9_blink 52 = .ok (.i2l, 1) := by decide +kernel
theorem dX9_blink_53 : decode cX9_blink 53 = .ok (.lconst 0, 1) := by decide +kernel
theorem dX9_blink_54 : decode cX9_blink 54 = .ok (.aload_n 0, 1) := by decide +kernel
theorem dX9_blink_55 : decode cX9_blink 55 = .ok (.getfield 13, 3) := by decide +kernel
theorem dX9_blink_58 : decode cX9_blink 58 = .ok (.iload_n 1, 1) := by decide +kernel
theorem dX9_blink_59 : decode cX9_blink 59 = .ok (.iaload, 1) := by decide +kernel
theorem dX9_blink_60 : decode cX9_blink 60 = .ok (.i2l, 1) := by decide +kernel
theorem dX9_blink_61 : decode cX9_blink 61 = .ok (.invokestatic 82, 3) := by decide +kernel
theorem dX9_blink_64 : decode cX9_blink 64 = .ok (.goto 25, 3) := by decide +kernel
theorem dX9_blink_67 : decode cX9_blink 67 = .ok (.iload_n 2, 1) := by decide +kernel
theorem dX9_blink_68 : decode cX9_blink 68 = .ok (.iconst 2, 1) := by decide +kernel
theorem dX9_blink_69 : decode cX9_blink 69 = .ok (.if_icmp .ne 19, 3) := by decide +kernel
theorem dX9_blink_72 : decode cX9_blink 72 = .ok (.iload_n 3, 1) := by decide +kernel
theorem dX9_blink_73 : decode cX9_blink 73 = .ok (.i2l, 1) := by decide +kernel
theorem dX9_blink_74 : decode cX9_blink 74 = .ok (.lconst 0, 1) := by decide +kernel
theorem dX9_blink_75 : decode cX9_blink 75 = .ok (.ldc2_w 148, 3) := by decide +kernel
theorem dX9_blink_78 : decode cX9_blink 78 = .ok (.invokestatic 82, 3) := by decide +kernel
theorem dX9_blink_81 : decode cX9_blink 81 = .ok (.ifCond .eq 7, 3) := by decide +kernel
theorem dX9_blink_84 : decode cX9_blink 84 = .ok (.iconst 1, 1) := by decide +kernel
theorem dX9_blink_85 : decode cX9_blink 85 = .ok (.goto 4, 3) := by decide +kernel
theorem dX9_blink_88 : decode cX9_blink 88 = .ok (.iconst 0, 1) := by decide +kernel
theorem dX9_blink_89 : decode cX9_blink 89 = .ok (.istore 4, 2) := by decide +kernel
theorem dX9_blink_91 : decode cX9_blink 91 = .ok (.iload 4, 2) := by decide +kernel
theorem dX9_blink_93 : decode cX9_blink 93 = .ok (.ifCond .ne 6, 3) := by decide +kernel
theorem dX9_blink_96 : decode cX9_blink 96 = .ok (.bipush (-2), 2) := by decide +kernel
theorem dX9_blink_98 : decode cX9_blink 98 = .ok (.ireturn, 1) := by decide +kernel
theorem dX9_blink_99 : decode cX9_blink 99 = .ok (.iload_n 2, 1) := by decide +kernel
theorem dX9_blink_100 : decode cX9_blink 100 = .ok (.ifCond .ne 12, 3) := by decide +kernel
theorem dX9_blink_103 : decode cX9_blink 103 = .ok (.aload_n 0, 1) := by decide +kernel
theorem dX9_blink_104 : decode cX9_blink 104 = .ok (.getfield 13, 3) := by decide +kernel
theorem dX9_blink_107 : decode cX9_blink 107 = .ok (.iload_n 1, 1) := by decide +kernel
theorem dX9_blink_108 : decode cX9_blink 108 = .ok (.iaload, 1) := by decide +kernel
theorem dX9_blink_109 : decode cX9_blink 109 = .ok (.goto 23, 3) := by decide +kernel
theorem dX9_blink_112 : decode cX9_blink 112 = .ok (.iload_n 2, 1) := by decide +kernel
theorem dX9_blink_113 : decode cX9_blink 113 = .ok (.iconst 1, 1) := by decide +kernel
theorem dX9_blink_114 : decode cX9_blink 114 = .ok (.if_icmp .ne 12, 3) := by decide +kernel
theorem dX9_blink_117 : decode cX9_blink 117 = .ok (.aload_n 0, 1) := by decide +kernel
theorem dX9_blink_118 : decode cX9_blink 118 = .ok (.getfield 16, 3) := by decide +kernel
theorem dX9_blink_121 : decode cX9_blink 121 = .ok (.iload_n 1, 1) := by decide +kernel
theorem dX9_blink_122 : decode cX9_blink 122 = .ok (.iaload, 1) := by decide +kernel
theorem dX9_blink_123 : decode cX9_blink 123 = .ok (.goto 9, 3) := by decide +kernel
theorem dX9_blink_126 : decode cX9_blink 126 = .ok (.aload_n 0, 1) := by decide +kernel
theorem dX9_blink_127 : decode cX9_blink 127 = .ok (.getfield 19, 3) := by decide +kernel
theorem dX9_blink_130 : decode cX9_blink 130 = .ok (.iload_n 1, 1) := by decide +kernel
theorem dX9_blink_131 : decode cX9_blink 131 = .ok (.iaload, 1) := by decide +kernel
theorem dX9_blink_132 : decode cX9_blink 132 = .ok (.istore 5, 2) := by decide +kernel
theorem dX9_blink_134 : decode cX9_blink 134 = .ok (.aload_n 0, 1) := by decide +kernel
theorem dX9_blink_135 : decode cX9_blink 135 = .ok (.getfield 13, 3) := by decide +kernel
theorem dX9_blink_138 : decode cX9_blink 138 = .ok (.iload_n 1, 1) := by decide +kernel
theorem dX9_blink_139 : decode cX9_blink 139 = .ok (.iload_n 2, 1) := by decide +kernel
theorem dX9_blink_140 : decode cX9_blink 140 = .ok (.ifCond .ne 7, 3) := by decide +kernel
theorem dX9_blink_143 : decode cX9_blink 143 = .ok (.iload_n 3, 1) := by decide +kernel
theorem dX9_blink_144 : decode cX9_blink 144 = .ok (.goto 9, 3) := by decide +kernel
theorem dX9_blink_147 : decode cX9_blink 147 = .ok (.aload_n 0, 1) := by decide +kernel
theorem dX9_blink_148 : decode cX9_blink 148 = .ok (.getfield 13, 3) := by decide +kernel
theorem dX9_blink_151 : decode cX9_blink 151 = .ok (.iload_n 1, 1) := by decide +kernel
theorem dX9_blink_152 : decode cX9_blink 152 = .ok (.iaload, 1) := by decide +kernel
theorem dX9_blink_153 : decode cX9_blink 153 = .ok (.iastore, 1) := by decide +kernel
theorem dX9_blink_154 : decode cX9_blink 154 = .ok (.aload_n 0, 1) := by decide +kernel
theorem dX9_blink_155 : decode cX9_blink 155 = .ok (.getfield 16, 3) := by decide +kernel
theorem dX9_blink_158 : decode cX9_blink 158 = .ok (.iload_n 1, 1) := by decide +kernel
theorem dX9_blink_159 : decode cX9_blink 159 = .ok (.iload_n 2, 1) := by decide +kernel
theorem dX9_blink_160 : decode cX9_blink 160 = .ok (.iconst 1, 1) := by decide +kernel
theorem dX9_blink_161 : decode cX9_blink 161 = .ok (.if_icmp .ne 7, 3) := by decide +kernel
theorem dX9_blink_164 : decode cX9_blink 164 = .ok (.iload_n 3, 1) := by decide +kernel
theorem dX9_blink_165 : decode cX9_blink 165 = .ok (.goto 9, 3) := by decide +kernel
theorem dX9_blink_168 : decode cX9_blink 168 = .ok (.aload_n 0, 1) := by decide +kernel
theorem dX9_blink_169 : decode cX9_blink 169 = .ok (.getfield 16, 3) := by decide +kernel
theorem dX9_blink_172 : decode cX9_blink 172 = .ok (.iload_n 1, 1) := by decide +kernel
theorem dX9_blink_173 : decode cX9_blink 173 = .ok (.iaload, 1) := by decide +kernel
theorem dX9_blink_174 : decode cX9_blink 174 = .ok (.iastore, 1) := by decide +kernel
theorem dX9_blink_175 : decode cX9_blink 175 = .ok (.aload_n 0, 1) := by decide +kernel
theorem dX9_blink_176 : decode cX9_blink 176 = .ok (.getfield 19, 3) := by decide +kernel
theorem dX9_blink_179 : decode cX9_blink 179 = .ok (.iload_n 1, 1) := by decide +kernel
theorem dX9_blink_180 : decode cX9_blink 180 = .ok (.iload_n 2, 1) := by decide +kernel
theorem dX9_blink_181 : decode cX9_blink 181 = .ok (.iconst 2, 1) := by decide +kernel
theorem dX9_blink_182 : decode cX9_blink 182 = .ok (.if_icmp .ne 7, 3) := by decide +kernel
theorem dX9_blink_185 : decode cX9_blink 185 = .ok (.iload_n 3, 1) := by decide +kernel
theorem dX9_blink_186 : decode cX9_blink 186 = .ok (.goto 9, 3) := by decide +kernel
theorem dX9_blink_189 : decode cX9_blink 189 = .ok (.aload_n 0, 1) := by decide +kernel
theorem dX9_blink_190 : decode cX9_blink 190 = .ok (.getfield 19, 3) := by decide +kernel
theorem dX9_blink_193 : decode cX9_blink 193 = .ok (.iload_n 1, 1) := by decide +kernel
theorem dX9_blink_194 : decode cX9_blink 194 = .ok (.iaload, 1) := by decide +kernel
theorem dX9_blink_195 : decode cX9_blink 195 = .ok (.iastore, 1) := by decide +kernel
theorem dX9_blink_196 : decode cX9_blink 196 = .ok (.iload 5, 2) := by decide +kernel
theorem dX9_blink_198 : decode cX9_blink 198 = .ok (.ireturn, 1) := by decide +kernel
theorem dX9_flash_0 : decode cX9_flash 0 = .ok (.iload_n 1, 1) := by decide +kernel
theorem dX9_flash_1 : decode cX9_flash 1 = .ok (.i2l, 1) := by decide +kernel
theorem dX9_flash_2 : decode cX9_flash 2 = .ok (.ldc2_w 150, 3) := by decide +kernel
theorem dX9_flash_5 : decode cX9_flash 5 = .ok (.ldc2_w 152, 3) := by decide +kernel
theorem dX9_flash_8 : decode cX9_flash 8 = .ok (.invokestatic 82, 3) := by decide +kernel
theorem dX9_flash_11 : decode cX9_flash 11 = .ok (.ifCond .ne 6, 3) := by decide +kernel
theorem dX9_flash_14 : decode cX9_flash 14 = .ok (.bipush (-2), 2) := by decide +kernel
theorem dX9_flash_16 : decode cX9_flash 16 = .ok (.ireturn, 1) := by decide +kernel
theorem dX9_flash_17 : decode cX9_flash 17 = .ok (.aload_n 0, 1) := by decide +kernel
theorem dX9_flash_18 : decode cX9_flash 18 = .ok (.getfield 63, 3) := by decide +kernel
theorem dX9_flash_21 : decode cX9_flash 21 = .ok (.istore_n 2, 1) := by decide +kernel
theorem dX9_flash_22 : decode cX9_flash 22 = .ok (.aload_n 0, 1) := by decide +kernel
theorem dX9_flash_23 : decode cX9_flash 23 = .ok (.iload_n 1, 1) := by decide +kernel
theorem dX9_flash_24 : decode cX9_flash 24 = .ok (.putfield 63, 3) := by decide +kernel
theorem dX9_flash_27 : decode cX9_flash 27 = .ok (.iload_n 2, 1) := by decide +kernel
theorem dX9_flash_28 : decode cX9_flash 28 = .ok (.ireturn, 1) := by decide +kernel
theorem dX9_openAt_0 : decode cX9_openAt 0 = .ok (.iconst 0, 1) := by decide +kernel
theorem dX9_openAt_1 : decode cX9_openAt 1 = .ok (.istore_n 2, 1) := by decide +kernel
theorem dX9_openAt_2 : decode cX9_openAt 2 = .ok (.aload_n 0, 1) := by decide +kernel
theorem dX9_openAt_3 : decode cX9_openAt 3 = .ok (.getfield 63, 3) := by decide +kernel
theorem dX9_openAt_6 : decode cX9_openAt 6 = .ok (.ifCond .lt 29, 3) := by decide +kernel
theorem dX9_openAt_9 : decode cX9_openAt 9 = .ok (.iload_n 1, 1) := by decide +kernel
theorem dX9_openAt_10 : decode cX9_openAt 10 = .ok (.i2l, 1) := by decide +kernel
theorem dX9_openAt_11 : decode cX9_openAt 11 = .ok (.aload_n 0, 1) := by decide +kernel
theorem dX9_openAt_12 : decode cX9_openAt 12 = .ok (.getfield 63, 3) := by decide +kernel
theorem dX9_openAt_15 : decode cX9_openAt 15 = .ok (.iconst 1, 1) := by decide +kernel
theorem dX9_openAt_16 : decode cX9_openAt 16 = .ok (.iadd, 1) := by decide +kernel
theorem dX9_openAt_17 : decode cX9_openAt 17 = .ok (.i2l, 1) := by decide +kernel
theorem dX9_openAt_18 : decode cX9_openAt 18 = .ok (.aload_n 0, 1) := by decide +kernel
theorem dX9_openAt_19 : decode cX9_openAt 19 = .ok (.getfield 63, 3) := by decide +kernel
theorem dX9_openAt_22 : decode cX9_openAt 22 = .ok (.iconst 2, 1) := by decide +kernel
theorem dX9_openAt_23 : decode cX9_openAt 23 = .ok (.iadd, 1) := by decide +kernel
theorem dX9_openAt_24 : decode cX9_openAt 24 = .ok (.i2l, 1) := by decide +kernel
theorem dX9_openAt_25 : decode cX9_openAt 25 = .ok (.invokestatic 82, 3) := by decide +kernel
theorem dX9_openAt_28 : decode cX9_openAt 28 = .ok (.ifCond .eq 7, 3) := by decide +kernel
theorem dX9_openAt_31 : decode cX9_openAt 31 = .ok (.iconst 1, 1) := by decide +kernel
theorem dX9_openAt_32 : decode cX9_openAt 32 = .ok (.goto 4, 3) := by decide +kernel
theorem dX9_openAt_35 : decode cX9_openAt 35 = .ok (.iconst 0, 1) := by decide +kernel
theorem dX9_openAt_36 : decode cX9_openAt 36 = .ok (.istore_n 3, 1) := by decide +kernel
theorem dX9_openAt_37 : decode cX9_openAt 37 = .ok (.iconst 0, 1) := by decide +kernel
theorem dX9_openAt_38 : decode cX9_openAt 38 = .ok (.istore 4, 2) := by decide +kernel
theorem dX9_openAt_40 : decode cX9_openAt 40 = .ok (.iload 4, 2) := by decide +kernel
theorem dX9_openAt_42 : decode cX9_openAt 42 = .ok (.aload_n 0, 1) := by decide +kernel
theorem dX9_openAt_43 : decode cX9_openAt 43 = .ok (.getfield 70, 3) := by decide +kernel
theorem dX9_openAt_46 : decode cX9_openAt 46 = .ok (.if_icmp .ge 63, 3) := by decide +kernel
theorem dX9_openAt_49 : decode cX9_openAt 49 = .ok (.iload_n 3, 1) := by decide +kernel
theorem dX9_openAt_50 : decode cX9_openAt 50 = .ok (.ifCond .ne 34, 3) := by decide +kernel
theorem dX9_openAt_53 : decode cX9_openAt 53 = .ok (.iload_n 1, 1) := by decide +kernel
theorem dX9_openAt_54 : decode cX9_openAt 54 = .ok (.aload_n 0, 1) := by decide +kernel
theorem dX9_openAt_55 : decode cX9_openAt 55 = .ok (.getfield 19, 3) := by decide +kernel
theorem dX9_openAt_58 : decode cX9_openAt 58 = .ok (.iload 4, 2) := by decide +kernel
theorem dX9_openAt_60 : decode cX9_openAt 60 = .ok (.iaload, 1) := by decide +kernel
theorem dX9_openAt_61 : decode cX9_openAt 61 = .ok (.iadd, 1) := by decide +kernel
theorem dX9_openAt_62 : decode cX9_openAt 62 = .ok (.aload_n 0, 1) := by decide +kernel
theorem dX9_openAt_63 : decode cX9_openAt 63 = .ok (.getfield 13, 3) := by decide +kernel
theorem dX9_openAt_66 : decode cX9_openAt 66 = .ok (.iload 4, 2) := by decide +kernel
theorem dX9_openAt_68 : decode cX9_openAt 68 = .ok (.iaload, 1) := by decide +kernel
theorem dX9_openAt_69 : decode cX9_openAt 69 = .ok (.irem, 1) := by decide +kernel
theorem dX9_openAt_70 : decode cX9_openAt 70 = .ok (.aload_n 0, 1) := by decide +kernel
theorem dX9_openAt_71 : decode cX9_openAt 71 = .ok (.getfield 16, 3) := by decide +kernel
theorem dX9_openAt_74 : decode cX9_openAt 74 = .ok (.iload 4, 2) := by decide +kernel
theorem dX9_openAt_76 : decode cX9_openAt 76 = .ok (.iaload, 1) := by decide +kernel
theorem dX9_openAt_77 : decode cX9_openAt 77 = .ok (.if_icmp .lt 7, 3) := by decide +kernel
theorem dX9_openAt_80 : decode cX9_openAt 80 = .ok (.iconst 1, 1) := by decide +kernel
theorem dX9_openAt_81 : decode cX9_openAt 81 = .ok (.goto 4, 3) := by decide +kernel
theorem dX9_openAt_84 : decode cX9_openAt 84 = .ok (.iconst 0, 1) := by decide +kernel
theorem dX9_openAt_85 : decode cX9_openAt 85 = .ok (.istore 5, 2) := by decide +kernel
theorem dX9_openAt_87 : decode cX9_openAt 87 = .ok (.iload_n 2, 1) := by decide +kernel
theorem dX9_openAt_88 : decode cX9_openAt 88 = .ok (.iload 5, 2) := by decide +kernel
theorem dX9_openAt_90 : decode cX9_openAt 90 = .ok (.ifCond .eq 10, 3) := by decide +kernel
theorem dX9_openAt_93 : decode cX9_openAt 93 = .ok (.iconst 1, 1) := by decide +kernel
theorem dX9_openAt_94 : decode cX9_openAt 94 = .ok (.iload 4, 2) := by decide +kernel
theorem dX9_openAt_96 : decode cX9_openAt 96 = .ok (.ishl, 1) := by decide +kernel
theorem dX9_openAt_97 : decode cX9_openAt 97 = .ok (.goto 4, 3) := by decide +kernel
theorem dX9_openAt_100 : decode cX9_openAt 100 = .ok (.iconst 0, 1) := by decide +kernel
theorem dX9_openAt_101 : decode cX9_openAt 101 = .ok (.ior, 1) := by decide +kernel
theorem dX9_openAt_102 : decode cX9_openAt 102 = .ok (.istore_n 2, 1) := by decide +kernel
theorem dX9_openAt_103 : decode cX9_openAt 103 = .ok (.iinc 4 1, 3) := by decide +kernel
theorem dX9_openAt_106 : decode cX9_openAt 106 = .ok (.goto (-66), 3) := by decide +kernel
theorem dX9_openAt_109 : decode cX9_openAt 109 = .ok (.iload_n 2, 1) := by decide +kernel
theorem dX9_openAt_110 : decode cX9_openAt 110 = .ok (.ireturn, 1) := by decide +kernel
theorem dX9_open_0 : decode cX9_open 0 = .ok (.iload_n 1, 1) := by decide +kernel
theorem dX9_open_1 : decode cX9_open 1 = .ok (.i2l, 1) := by decide +kernel
theorem dX9_open_2 : decode cX9_open 2 = .ok (.lconst 0, 1) := by decide +kernel
theorem dX9_open_3 : decode cX9_open 3 = .ok (.ldc2_w 152, 3) := by decide +kernel
theorem dX9_open_6 : decode cX9_open 6 = .ok (.invokestatic 82, 3) := by decide +kernel
theorem dX9_open_9 : decode cX9_open 9 = .ok (.ifCond .eq 11, 3) := by decide +kernel
theorem dX9_open_12 : decode cX9_open 12 = .ok (.aload_n 0, 1) := by decide +kernel
theorem dX9_open_13 : decode cX9_open 13 = .ok (.iload_n 1, 1) := by decide +kernel
theorem dX9_open_14 : decode cX9_open 14 = .ok (.invokevirtual 154, 3) := by decide +kernel
theorem dX9_open_17 : decode cX9_open 17 = .ok (.goto 5, 3) := by decide +kernel
theorem dX9_open_20 : decode cX9_open 20 = .ok (.bipush (-2), 2) := by decide +kernel
theorem dX9_open_22 : decode cX9_open 22 = .ok (.ireturn, 1) := by decide +kernel
theorem dX9_fire_0 : decode cX9_fire 0 = .ok (.iload_n 1, 1) := by decide +kernel
theorem dX9_fire_1 : decode cX9_fire 1 = .ok (.i2l, 1) := by decide +kernel
theorem dX9_fire_2 : decode cX9_fire 2 = .ok (.lconst 0, 1) := by decide +kernel
theorem dX9_fire_3 : decode cX9_fire 3 = .ok (.ldc2_w 152, 3) := by decide +kernel
theorem dX9_fire_6 : decode cX9_fire 6 = .ok (.invokestatic 82, 3) := by decide +kernel
theorem dX9_fire_9 : decode cX9_fire 9 = .ok (.ifCond .eq 28, 3) := by decide +kernel
theorem dX9_fire_12 : decode cX9_fire 12 = .ok (.iload_n 2, 1) := by decide +kernel
theorem dX9_fire_13 : decode cX9_fire 13 = .ok (.i2l, 1) := by decide +kernel
theorem dX9_fire_14 : decode cX9_fire 14 = .ok (.iload_n 1, 1) := by decide +kernel
theorem dX9_fire_15 : decode cX9_fire 15 = .ok (.i2l, 1) := by decide +kernel
theorem dX9_fire_16 : decode cX9_fire 16 = .ok (.ldc2_w 152, 3) := by decide +kernel
theorem dX9_fire_19 : decode cX9_fire 19 = .ok (.invokestatic 82, 3) := by decide +kernel
theorem dX9_fire_22 : decode cX9_fire 22 = .ok (.ifCond .eq 15, 3) := by decide +kernel
theorem dX9_fire_25 : decode cX9_fire 25 = .ok (.iload_n 3, 1) := by decide +kernel
theorem dX9_fire_26 : decode cX9_fire 26 = .ok (.i2l, 1) := by decide +kernel
theorem dX9_fire_27 : decode cX9_fire 27 = .ok (.lconst 0, 1) := by decide +kernel
theorem dX9_fire_28 : decode cX9_fire 28 = .ok (.ldc2_w 157, 3) := by decide +kernel
theorem dX9_fire_31 : decode cX9_fire 31 = .ok (.invokestatic 82, 3) := by decide +kernel
theorem dX9_fire_34 : decode cX9_fire 34 = .ok (.ifCond .ne 6, 3) := by decide +kernel
theorem dX9_fire_37 : decode cX9_fire 37 = .ok (.bipush (-2), 2) := by decide +kernel
theorem dX9_fire_39 : decode cX9_fire 39 = .ok (.ireturn, 1) := by decide +kernel
theorem dX9_fire_40 : decode cX9_fire 40 = .ok (.bipush (-6), 2) := by decide +kernel
theorem dX9_fire_42 : decode cX9_fire 42 = .ok (.istore 4, 2) := by decide +kernel
theorem dX9_fire_44 : decode cX9_fire 44 = .ok (.iconst (-1), 1) := by decide +kernel
theorem dX9_fire_45 : decode cX9_fire 45 = .ok (.istore 5, 2) := by decide +kernel
theorem dX9_fire_47 : decode cX9_fire 47 = .ok (.iconst 0, 1) := by decide +kernel
theorem dX9_fire_48 : decode cX9_fire 48 = .ok (.istore 6, 2) := by decide +kernel
theorem dX9_fire_50 : decode cX9_fire 50 = .ok (.iload_n 1, 1) := by decide +kernel
theorem dX9_fire_51 : decode cX9_fire 51 = .ok (.istore 7, 2) := by decide +kernel
theorem dX9_fire_53 : decode cX9_fire 53 = .ok (.iload 7, 2) := by decide +kernel
theorem dX9_fire_55 : decode cX9_fire 55 = .ok (.iload_n 2, 1) := by decide +kernel
theorem dX9_fire_56 : decode cX9_fire 56 = .ok (.if_icmp .gt 71, 3) := by decide +kernel
theorem dX9_fire_59 : decode cX9_fire 59 = .ok (.aload_n 0, 1) := by decide +kernel
theorem dX9_fire_60 : decode cX9_fire 60 = .ok (.iload 7, 2) := by decide +kernel
theorem dX9_fire_62 : decode cX9_fire 62 = .ok (.invokevirtual 154, 3) := by decide +kernel
theorem dX9_fire_65 : decode cX9_fire 65 = .ok (.invokestatic 126, 3) := by decide +kernel
theorem dX9_fire_68 : decode cX9_fire 68 = .ok (.istore 8, 2) := by decide +kernel
theorem dX9_fire_70 : decode cX9_fire 70 = .ok (.iload 8, 2) := by decide +kernel
theorem dX9_fire_72 : decode cX9_fire 72 = .ok (.iload 5, 2) := by decide +kernel
theorem dX9_fire_74 : decode cX9_fire 74 = .ok (.if_icmp .le 8, 3) := by decide +kernel
theorem dX9_fire_77 : decode cX9_fire 77 = .ok (.iload 7, 2) := by decide +kernel
theorem dX9_fire_79 : decode cX9_fire 79 = .ok (.goto 5, 3) := by decide +kernel
theorem dX9_fire_82 : decode cX9_fire 82 = .ok (.iload 4, 2) := by decide +kernel
theorem dX9_fire_84 : decode cX9_fire 84 = .ok (.istore 4, 2) := by decide +kernel
theorem dX9_fire_86 : decode cX9_fire 86 = .ok (.iload 8, 2) := by decide +kernel
theorem dX9_fire_88 : decode cX9_fire 88 = .ok (.iload 5, 2) := by decide +kernel
theorem dX9_fire_90 : decode cX9_fire 90 = .ok (.if_icmp .le 8, 3) := by decide +kernel
theorem dX9_fire_93 : decode cX9_fire 93 = .ok (.iload 8, 2) := by decide +kernel
theorem dX9_fire_95 : decode cX9_fire 95 = .ok (.goto 5, 3) := by decide +kernel
theorem dX9_fire_98 : decode cX9_fire 98 = .ok (.iload 5, 2) := by decide +kernel
theorem dX9_fire_100 : decode cX9_fire 100 = .ok (.istore 5, 2) := by decide +kernel
theorem dX9_fire_102 : decode cX9_fire 102 = .ok (.iload 6, 2) := by decide +kernel
theorem dX9_fire_104 : decode cX9_fire 104 = .ok (.iload 8, 2) := by decide +kernel
theorem dX9_fire_106 : decode cX9_fire 106 = .ok (.aload_n 0, 1) := by decide +kernel
theorem dX9_fire_107 : decode cX9_fire 107 = .ok (.getfield 70, 3) := by decide +kernel
theorem dX9_fire_110 : decode cX9_fire 110 = .ok (.if_icmp .ne 7, 3) := by decide +kernel
theorem dX9_fire_113 : decode cX9_fire 113 = .ok (.iconst 1, 1) := by decide +kernel
theorem dX9_fire_114 : decode cX9_fire 114 = .ok (.goto 4, 3) := by decide +kernel
theorem dX9_fire_117 : decode cX9_fire 117 = .ok (.iconst 0, 1) := by decide +kernel
theorem dX9_fire_118 : decode cX9_fire 118 = .ok (.iadd, 1) := by decide +kernel
theorem dX9_fire_119 : decode cX9_fire 119 = .ok (.istore 6, 2) := by decide +kernel
theorem dX9_fire_121 : decode cX9_fire 121 = .ok (.iinc 7 1, 3) := by decide +kernel
theorem dX9_fire_124 : decode cX9_fire 124 = .ok (.goto (-71), 3) := by decide +kernel
theorem dX9_fire_127 : decode cX9_fire 127 = .ok (.iload_n 3, 1) := by decide +kernel
theorem dX9_fire_128 : decode cX9_fire 128 = .ok (.ifCond .ne 8, 3) := by decide +kernel
theorem dX9_fire_131 : decode cX9_fire 131 = .ok (.iload 4, 2) := by decide +kernel
theorem dX9_fire_133 : decode cX9_fire 133 = .ok (.goto 15, 3) := by decide +kernel
theorem dX9_fire_136 : decode cX9_fire 136 = .ok (.iload_n 3, 1) := by decide +kernel
theorem dX9_fire_137 : decode cX9_fire 137 = .ok (.iconst 1, 1) := by decide +kernel
theorem dX9_fire_138 : decode cX9_fire 138 = .ok (.if_icmp .ne 8, 3) := by decide +kernel
theorem dX9_fire_141 : decode cX9_fire 141 = .ok (.iload 5, 2) := by decide +kernel
theorem dX9_fire_143 : decode cX9_fire 143 = .ok (.goto 5, 3) := by decide +kernel
theorem dX9_fire_146 : decode cX9_fire 146 = .ok (.iload 6, 2) := by decide +kernel
theorem dX9_fire_148 : decode cX9_fire 148 = .ok (.ireturn, 1) := by decide +kernel
theorem dX9_bad_0 : decode cX9_bad 0 = .ok (.iload_n 1, 1) := by decide +kernel
theorem dX9_bad_1 : decode cX9_bad 1 = .ok (.iconst (-1), 1) := by decide +kernel
theorem dX9_bad_2 : decode cX9_bad 2 = .ok (.if_icmp .eq 13, 3) := by decide +kernel
theorem dX9_bad_5 : decode cX9_bad 5 = .ok (.aload_n 0, 1) := by decide +kernel
theorem dX9_bad_6 : decode cX9_bad 6 = .ok (.iload_n 1, 1) := by decide +kernel
theorem dX9_bad_7 : decode cX9_bad 7 = .ok (.invokevirtual 88, 3) := by decide +kernel
theorem dX9_bad_10 : decode cX9_bad 10 = .ok (.ifCond .ne 5, 3) := by decide +kernel
theorem dX9_bad_13 : decode cX9_bad 13 = .ok (.iconst (-1), 1) := by decide +kernel
theorem dX9_bad_14 : decode cX9_bad 14 = .ok (.ireturn, 1) := by decide +kernel
theorem dX9_bad_15 : decode cX9_bad 15 = .ok (.iload_n 2, 1) := by decide +kernel
theorem dX9_bad_16 : decode cX9_bad 16 = .ok (.i2l, 1) := by decide +kernel
theorem dX9_bad_17 : decode cX9_bad 17 = .ok (.lconst 0, 1) := by decide +kernel
theorem dX9_bad_18 : decode cX9_bad 18 = .ok (.iload_n 1, 1) := by decide +kernel
theorem dX9_bad_19 : decode cX9_bad 19 = .ok (.iconst (-1), 1) := by decide +kernel
theorem dX9_bad_20 : decode cX9_bad 20 = .ok (.if_icmp .ne 9, 3) := by decide +kernel
theorem dX9_bad_23 : decode cX9_bad 23 = .ok (.ldc2_w 159, 3) := by decide +kernel
theorem dX9_bad_26 : decode cX9_bad 26 = .ok (.goto 6, 3) := by decide +kernel
theorem dX9_bad_29 : decode cX9_bad 29 = .ok (.ldc2_w 161, 3) := by decide +kernel
theorem dX9_bad_32 : decode cX9_bad 32 = .ok (.invokestatic 82, 3) := by decide +kernel
theorem dX9_bad_35 : decode cX9_bad 35 = .ok (.ifCond .ne 6, 3) := by decide +kernel
theorem dX9_bad_38 : decode cX9_bad 38 = .ok (.bipush (-2), 2) := by decide +kernel
theorem dX9_bad_40 : decode cX9_bad 40 = .ok (.ireturn, 1) := by decide +kernel
theorem dX9_bad_41 : decode cX9_bad 41 = .ok (.iload_n 1, 1) := by decide +kernel
theorem dX9_bad_42 : decode cX9_bad 42 = .ok (.iconst (-1), 1) := by decide +kernel
theorem dX9_bad_43 : decode cX9_bad 43 = .ok (.if_icmp .ne 10, 3) := by decide +kernel
theorem dX9_bad_46 : decode cX9_bad 46 = .ok (.aload_n 0, 1) := by decide +kernel
theorem dX9_bad_47 : decode cX9_bad 47 = .ok (.getfield 50, 3) := by decide +kernel
theorem dX9_bad_50 : decode cX9_bad 50 = .ok (.goto 9, 3) := by decide +kernel
theorem dX9_bad_53 : decode cX9_bad 53 = .ok (.aload_n 0, 1) := by decide +kernel
theorem dX9_bad_54 : decode cX9_bad 54 = .ok (.getfield 22, 3) := by decide +kernel
theorem dX9_bad_57 : decode cX9_bad 57 = .ok (.iload_n 1, 1) := by decide +kernel
theorem dX9_bad_58 : decode cX9_bad 58 = .ok (.iaload, 1) := by decide +kernel
theorem dX9_bad_59 : decode cX9_bad 59 = .ok (.istore_n 3, 1) := by decide +kernel
theorem dX9_bad_60 : decode cX9_bad 60 = .ok (.iload_n 1, 1) := by decide +kernel
theorem dX9_bad_61 : decode cX9_bad 61 = .ok (.iconst (-1), 1) := by decide +kernel
theorem dX9_bad_62 : decode cX9_bad 62 = .ok (.if_icmp .ne 11, 3) := by decide +kernel
theorem dX9_bad_65 : decode cX9_bad 65 = .ok (.aload_n 0, 1) := by decide +kernel
theorem dX9_bad_66 : decode cX9_bad 66 = .ok (.iload_n 2, 1) := by decide +kernel
theorem dX9_bad_67 : decode cX9_bad 67 = .ok (.putfield 50, 3) := by decide +kernel
theorem dX9_bad_70 : decode cX9_bad 70 = .ok (.goto 10, 3) := by decide +kernel
theorem dX9_bad_73 : decode cX9_bad 73 = .ok (.aload_n 0, 1) := by decide +kernel
theorem dX9_bad_74 : decode cX9_bad 74 = .ok (.getfield 22, 3) := by decide +kernel
theorem dX9_bad_77 : decode cX9_bad 77 = .ok (.iload_n 1, 1) := by decide +kernel
theorem dX9_bad_78 : decode cX9_bad 78 = .ok (.iload_n 2, 1) := by decide +kernel
theorem dX9_bad_79 : decode cX9_bad 79 = .ok (.iastore, 1) := by decide +kernel
theorem dX9_bad_80 : decode cX9_bad 80 = .ok (.iload_n 3, 1) := by decide +kernel
theorem dX9_bad_81 : decode cX9_bad 81 = .ok (.ireturn, 1) := by decide +kernel
theorem dX9_quartersOf_0 : decode cX9_quartersOf 0 = .ok (.iload_n 2, 1) := by decide +kernel
theorem dX9_quartersOf_1 : decode cX9_quartersOf 1 = .ok (.aload_n 0, 1) := by decide +kernel
theorem dX9_quartersOf_2 : decode cX9_quartersOf 2 = .ok (.getfield 50, 3) := by decide +kernel
theorem dX9_quartersOf_5 : decode cX9_quartersOf 5 = .ok (.if_icmp .lt 14, 3) := by decide +kernel
theorem dX9_quartersOf_8 : decode cX9_quartersOf 8 = .ok (.aload_n 0, 1) := by decide +kernel
theorem dX9_quartersOf_9 : decode cX9_quartersOf 9 = .ok (.getfield 22, 3) := by decide +kernel
theorem dX9_quartersOf_12 : decode cX9_quartersOf 12 = .ok (.iload_n 1, 1) := by decide +kernel
theorem dX9_quartersOf_13 : decode cX9_quartersOf 13 = .ok (.iaload, 1) := by decide +kernel
theorem dX9_quartersOf_14 : decode cX9_quartersOf 14 = .ok (.iconst 1, 1) := by decide +kernel
theorem dX9_quartersOf_15 : decode cX9_quartersOf 15 = .ok (.iadd, 1) := by decide +kernel
theorem dX9_quartersOf_16 : decode cX9_quartersOf 16 = .ok (.goto 9, 3) := by decide +kernel
theorem dX9_quartersOf_19 : decode cX9_quartersOf 19 = .ok (.aload_n 0, 1) := by decide +kernel
theorem dX9_quartersOf_20 : decode cX9_quartersOf 20 = .ok (.getfield 22, 3) := by decide +kernel
theorem dX9_quartersOf_23 : decode cX9_quartersOf 23 = .ok (.iload_n 1, 1) := by decide +kernel
theorem dX9_quartersOf_24 : decode cX9_quartersOf 24 = .ok (.iaload, 1) := by decide +kernel
theorem dX9_quartersOf_25 : decode cX9_quartersOf 25 = .ok (.istore_n 3, 1) := by decide +kernel
theorem dX9_quartersOf_26 : decode cX9_quartersOf 26 = .ok (.iload_n 3, 1) := by decide +kernel
theorem dX9_quartersOf_27 : decode cX9_quartersOf 27 = .ok (.iconst 4, 1) := by decide +kernel
theorem dX9_quartersOf_28 : decode cX9_quartersOf 28 = .ok (.if_icmp .le 7, 3) := by decide +kernel
theorem dX9_quartersOf_31 : decode cX9_quartersOf 31 = .ok (.iconst 4, 1) := by decide +kernel
theorem dX9_quartersOf_32 : decode cX9_quartersOf 32 = .ok (.goto 4, 3) := by decide +kernel
theorem dX9_quartersOf_35 : decode cX9_quartersOf 35 = .ok (.iload_n 3, 1) := by decide +kernel
theorem dX9_quartersOf_36 : decode cX9_quartersOf 36 = .ok (.ireturn, 1) := by decide +kernel
theorem dX9_allOpen_0 : decode cX9_allOpen 0 = .ok (.lconst 1, 1) := by decide +kernel
theorem dX9_allOpen_1 : decode cX9_allOpen 1 = .ok (.lstore_n 2, 1) := by decide +kernel
theorem dX9_allOpen_2 : decode cX9_allOpen 2 = .ok (.iconst 0, 1) := by decide +kernel
theorem dX9_allOpen_3 : decode cX9_allOpen 3 = .ok (.istore 4, 2) := by decide +kernel
theorem dX9_allOpen_5 : decode cX9_allOpen 5 = .ok (.iload 4, 2) := by decide +kernel
theorem dX9_allOpen_7 : decode cX9_allOpen 7 = .ok (.aload_n 0, 1) := by decide +kernel
theorem dX9_allOpen_8 : decode cX9_allOpen 8 = .ok (.getfield 70, 3) := by decide +kernel
theorem dX9_allOpen_11 : decode cX9_allOpen 11 = .ok (.if_icmp .ge 22, 3) := by decide +kernel
theorem dX9_allOpen_14 : decode cX9_allOpen 14 = .ok (.lload_n 2, 1) := by decide +kernel
theorem dX9_allOpen_15 : decode cX9_allOpen 15 = .ok (.iconst 4, 1) := by decide +kernel
theorem dX9_allOpen_16 : decode cX9_allOpen 16 = .ok (.aload_n 0, 1) := by decide +kernel
theorem dX9_allOpen_17 : decode cX9_allOpen 17 = .ok (.iload 4, 2) := by decide +kernel
theorem dX9_allOpen_19 : decode cX9_allOpen 19 = .ok (.iload_n 1, 1) := by decide +kernel
theorem dX9_allOpen_20 : decode cX9_allOpen 20 = .ok (.invokevirtual 163, 3) := by decide +kernel
theorem dX9_allOpen_23 : decode cX9_allOpen 23 = .ok (.isub, 1) := by decide +kernel
theorem dX9_allOpen_24 : decode cX9_allOpen 24 = .ok (.i2l, 1) := by decide +kernel
theorem dX9_allOpen_25 : decode cX9_allOpen 25 = .ok (.lmul, 1) := by decide +kernel
theorem dX9_allOpen_26 : decode cX9_allOpen 26 = .ok (.lstore_n 2, 1) := by decide +kernel
theorem dX9_allOpen_27 : decode cX9_allOpen 27 = .ok (.iinc 4 1, 3) := by decide +kernel
theorem dX9_allOpen_30 : decode cX9_allOpen 30 = .ok (.goto (-25), 3) := by decide +kernel
theorem dX9_allOpen_33 : decode cX9_allOpen 33 = .ok (.lload_n 2, 1) := by decide +kernel
theorem dX9_allOpen_34 : decode cX9_allOpen 34 = .ok (.lreturn, 1) := by decide +kernel
theorem dX9_lowest_0 : decode cX9_lowest 0 = .ok (.lload_n 2, 1) := by decide +kernel
theorem dX9_lowest_1 : decode cX9_lowest 1 = .ok (.lstore 5, 2) := by decide +kernel
theorem dX9_lowest_3 : decode cX9_lowest 3 = .ok (.lload_n 0, 1) := by decide +kernel
theorem dX9_lowest_4 : decode cX9_lowest 4 = .ok (.lstore 7, 2) := by decide +kernel
theorem dX9_lowest_6 : decode cX9_lowest 6 = .ok (.lload 7, 2) := by decide +kernel
theorem dX9_lowest_8 : decode cX9_lowest 8 = .ok (.lconst 0, 1) := by decide +kernel
theorem dX9_lowest_9 : decode cX9_lowest 9 = .ok (.lcmp, 1) := by decide +kernel
theorem dX9_lowest_10 : decode cX9_lowest 10 = .ok (.ifCond .eq 21, 3) := by decide +kernel
theorem dX9_lowest_13 : decode cX9_lowest 13 = .ok (.lload 5, 2) := by decide +kernel
theorem dX9_lowest_15 : decode cX9_lowest 15 = .ok (.lload 7, 2) := by decide +kernel
theorem dX9_lowest_17 : decode cX9_lowest 17 = .ok (.lrem, 1) := by decide +kernel
theorem dX9_lowest_18 : decode cX9_lowest 18 = .ok (.lstore 9, 2) := by decide +kernel
theorem dX9_lowest_20 : decode cX9_lowest 20 = .ok (.lload 7, 2) := by decide +kernel
theorem dX9_lowest_22 : decode cX9_lowest 22 = .ok (.lstore 5, 2) := by decide +kernel
theorem dX9_lowest_24 : decode cX9_lowest 24 = .ok (.lload 9, 2) := by decide +kernel
theorem dX9_lowest_26 : decode cX9_lowest 26 = .ok (.lstore 7, 2) := by decide +kernel
theorem dX9_lowest_28 : decode cX9_lowest 28 = .ok (.goto (-22), 3) := by decide +kernel
theorem dX9_lowest_31 : decode cX9_lowest 31 = .ok (.iload 4, 2) := by decide +kernel
theorem dX9_lowest_33 : decode cX9_lowest 33 = .ok (.ifCond .ne 10, 3) := by decide +kernel
theorem dX9_lowest_36 : decode cX9_lowest 36 = .ok (.lload_n 0, 1) := by decide +kernel
theorem dX9_lowest_37 : decode cX9_lowest 37 = .ok (.lload 5, 2) := by decide +kernel
theorem dX9_lowest_39 : decode cX9_lowest 39 = .ok (.ldiv, 1) := by decide +kernel
theorem dX9_lowest_40 : decode cX9_lowest 40 = .ok (.goto 7, 3) := by decide +kernel
theorem dX9_lowest_43 : decode cX9_lowest 43 = .ok (.lload_n 2, 1) := by decide +kernel
theorem dX9_lowest_44 : decode cX9_lowest 44 = .ok (.lload 5, 2) := by decide +kernel
theorem dX9_lowest_46 : decode cX9_lowest 46 = .ok (.ldiv, 1) := by decide +kernel
theorem dX9_lowest_47 : decode cX9_lowest 47 = .ok (.lreturn, 1) := by decide +kernel
theorem dX9_likely_0 : decode cX9_likely 0 = .ok (.iload_n 1, 1) := by decide +kernel
theorem dX9_likely_1 : decode cX9_likely 1 = .ok (.i2l, 1) := by decide +kernel
theorem dX9_likely_2 : decode cX9_likely 2 = .ok (.lconst 0, 1) := by decide +kernel
theorem dX9_likely_3 : decode cX9_likely 3 = .ok (.ldc2_w 159, 3) := by decide +kernel
theorem dX9_likely_6 : decode cX9_likely 6 = .ok (.invokestatic 82, 3) := by decide +kernel
theorem dX9_likely_9 : decode cX9_likely 9 = .ok (.ifCond .eq 13, 3) := by decide +kernel
theorem dX9_likely_12 : decode cX9_likely 12 = .ok (.iload_n 2, 1) := by decide +kernel
theorem dX9_likely_13 : decode cX9_likely 13 = .ok (.i2l, 1) := by decide +kernel
theorem dX9_likely_14 : decode cX9_likely 14 = .ok (.lconst 0, 1) := by decide +kernel
theorem dX9_likely_15 : decode cX9_likely 15 = .ok (.lconst 1, 1) := by decide +kernel
theorem dX9_likely_16 : decode cX9_likely 16 = .ok (.invokestatic 82, 3) := by decide +kernel
theorem dX9_likely_19 : decode cX9_likely 19 = .ok (.ifCond .ne 7, 3) := by decide +kernel
theorem dX9_likely_22 : decode cX9_likely 22 = .ok (.ldc2_w 166, 3) := by decide +kernel
theorem dX9_likely_25 : decode cX9_likely 25 = .ok (.lreturn, 1) := by decide +kernel
theorem dX9_likely_26 : decode cX9_likely 26 = .ok (.aload_n 0, 1) := by decide +kernel
theorem dX9_likely_27 : decode cX9_likely 27 = .ok (.iload_n 1, 1) := by decide +kernel
theorem dX9_likely_28 : decode cX9_likely 28 = .ok (.invokevirtual 168, 3) := by decide +kernel
theorem dX9_likely_31 : decode cX9_likely 31 = .ok (.lconst 1, 1) := by decide +kernel
theorem dX9_likely_32 : decode cX9_likely 32 = .ok (.iconst 2, 1) := by decide +kernel
theorem dX9_likely_33 : decode cX9_likely 33 = .ok (.aload_n 0, 1) := by decide +kernel
theorem dX9_likely_34 : decode cX9_likely 34 = .ok (.getfield 70, 3) := by decide +kernel
theorem dX9_likely_37 : decode cX9_likely 37 = .ok (.imul, 1) := by decide +kernel
