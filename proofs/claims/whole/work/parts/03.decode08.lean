theorem dX9_findStandings_9 : decode cX9_findStandings 9 = .ok (.iconst 0, 1) := by decide +kernel
theorem dX9_findStandings_10 : decode cX9_findStandings 10 = .ok (.iastore, 1) := by decide +kernel
theorem dX9_findStandings_11 : decode cX9_findStandings 11 = .ok (.iload_n 2, 1) := by decide +kernel
theorem dX9_findStandings_12 : decode cX9_findStandings 12 = .ok (.ifCond .lt 128, 3) := by decide +kernel
theorem dX9_findStandings_15 : decode cX9_findStandings 15 = .ok (.aload_n 0, 1) := by decide +kernel
theorem dX9_findStandings_16 : decode cX9_findStandings 16 = .ok (.getfield 37, 3) := by decide +kernel
theorem dX9_findStandings_19 : decode cX9_findStandings 19 = .ok (.iload_n 2, 1) := by decide +kernel
theorem dX9_findStandings_20 : decode cX9_findStandings 20 = .ok (.iaload, 1) := by decide +kernel
theorem dX9_findStandings_21 : decode cX9_findStandings 21 = .ok (.aload_n 0, 1) := by decide +kernel
theorem dX9_findStandings_22 : decode cX9_findStandings 22 = .ok (.invokevirtual 102, 3) := by decide +kernel
theorem dX9_findStandings_25 : decode cX9_findStandings 25 = .ok (.if_icmp .lt 23, 3) := by decide +kernel
theorem dX9_findStandings_28 : decode cX9_findStandings 28 = .ok (.iinc 2 (-1), 3) := by decide +kernel
theorem dX9_findStandings_31 : decode cX9_findStandings 31 = .ok (.iload_n 2, 1) := by decide +kernel
theorem dX9_findStandings_32 : decode cX9_findStandings 32 = .ok (.ifCond .lt (-21), 3) := by decide +kernel
theorem dX9_findStandings_35 : decode cX9_findStandings 35 = .ok (.aload_n 0, 1) := by decide +kernel
theorem dX9_findStandings_36 : decode cX9_findStandings 36 = .ok (.getfield 37, 3) := by decide +kernel
theorem dX9_findStandings_39 : decode cX9_findStandings 39 = .ok (.iload_n 2, 1) := by decide +kernel
theorem dX9_findStandings_40 : decode cX9_findStandings 40 = .ok (.dup2, 1) := by decide +kernel
theorem dX9_findStandings_41 : decode cX9_findStandings 41 = .ok (.iaload, 1) := by decide +kernel
theorem dX9_findStandings_42 : decode cX9_findStandings 42 = .ok (.iconst 1, 1) := by decide +kernel
theorem dX9_findStandings_43 : decode cX9_findStandings 43 = .ok (.iadd, 1) := by decide +kernel
theorem dX9_findStandings_44 : decode cX9_findStandings 44 = .ok (.iastore, 1) := by decide +kernel
theorem dX9_findStandings_45 : decode cX9_findStandings 45 = .ok (.goto (-34), 3) := by decide +kernel
theorem dX9_findStandings_48 : decode cX9_findStandings 48 = .ok (.aload_n 0, 1) := by decide +kernel
theorem dX9_findStandings_49 : decode cX9_findStandings 49 = .ok (.iload_n 2, 1) := by decide +kernel
theorem dX9_findStandings_50 : decode cX9_findStandings 50 = .ok (.invokevirtual 209, 3) := by decide +kernel
theorem dX9_findStandings_53 : decode cX9_findStandings 53 = .ok (.ifCond .ne 16, 3) := by decide +kernel
theorem dX9_findStandings_56 : decode cX9_findStandings 56 = .ok (.aload_n 0, 1) := by decide +kernel
theorem dX9_findStandings_57 : decode cX9_findStandings 57 = .ok (.getfield 37, 3) := by decide +kernel
theorem dX9_findStandings_60 : decode cX9_findStandings 60 = .ok (.iload_n 2, 1) := by decide +kernel
theorem dX9_findStandings_61 : decode cX9_findStandings 61 = .ok (.dup2, 1) := by decide +kernel
theorem dX9_findStandings_62 : decode cX9_findStandings 62 = .ok (.iaload, 1) := by decide +kernel
theorem dX9_findStandings_63 : decode cX9_findStandings 63 = .ok (.iconst 1, 1) := by decide +kernel
theorem dX9_findStandings_64 : decode cX9_findStandings 64 = .ok (.iadd, 1) := by decide +kernel
theorem dX9_findStandings_65 : decode cX9_findStandings 65 = .ok (.iastore, 1) := by decide +kernel
theorem dX9_findStandings_66 : decode cX9_findStandings 66 = .ok (.goto (-55), 3) := by decide +kernel
theorem dX9_findStandings_69 : decode cX9_findStandings 69 = .ok (.iload_n 2, 1) := by decide +kernel
theorem dX9_findStandings_70 : decode cX9_findStandings 70 = .ok (.aload_n 0, 1) := by decide +kernel
theorem dX9_findStandings_71 : decode cX9_findStandings 71 = .ok (.getfield 70, 3) := by decide +kernel
theorem dX9_findStandings_74 : decode cX9_findStandings 74 = .ok (.iconst 1, 1) := by decide +kernel
theorem dX9_findStandings_75 : decode cX9_findStandings 75 = .ok (.isub, 1) := by decide +kernel
theorem dX9_findStandings_76 : decode cX9_findStandings 76 = .ok (.if_icmp .ge 16, 3) := by decide +kernel
theorem dX9_findStandings_79 : decode cX9_findStandings 79 = .ok (.iinc 2 1, 3) := by decide +kernel
theorem dX9_findStandings_82 : decode cX9_findStandings 82 = .ok (.aload_n 0, 1) := by decide +kernel
theorem dX9_findStandings_83 : decode cX9_findStandings 83 = .ok (.getfield 37, 3) := by decide +kernel
theorem dX9_findStandings_86 : decode cX9_findStandings 86 = .ok (.iload_n 2, 1) := by decide +kernel
theorem dX9_findStandings_87 : decode cX9_findStandings 87 = .ok (.iconst 0, 1) := by decide +kernel
theorem dX9_findStandings_88 : decode cX9_findStandings 88 = .ok (.iastore, 1) := by decide +kernel
theorem dX9_findStandings_89 : decode cX9_findStandings 89 = .ok (.goto (-78), 3) := by decide +kernel
theorem dX9_findStandings_92 : decode cX9_findStandings 92 = .ok (.iconst 0, 1) := by decide +kernel
theorem dX9_findStandings_93 : decode cX9_findStandings 93 = .ok (.istore_n 3, 1) := by decide +kernel
theorem dX9_findStandings_94 : decode cX9_findStandings 94 = .ok (.iload_n 3, 1) := by decide +kernel
theorem dX9_findStandings_95 : decode cX9_findStandings 95 = .ok (.aload_n 0, 1) := by decide +kernel
theorem dX9_findStandings_96 : decode cX9_findStandings 96 = .ok (.getfield 70, 3) := by decide +kernel
theorem dX9_findStandings_99 : decode cX9_findStandings 99 = .ok (.if_icmp .ge 25, 3) := by decide +kernel
theorem dX9_findStandings_102 : decode cX9_findStandings 102 = .ok (.iload_n 1, 1) := by decide +kernel
theorem dX9_findStandings_103 : decode cX9_findStandings 103 = .ok (.ifCond .ne 21, 3) := by decide +kernel
theorem dX9_findStandings_106 : decode cX9_findStandings 106 = .ok (.aload_n 0, 1) := by decide +kernel
theorem dX9_findStandings_107 : decode cX9_findStandings 107 = .ok (.getfield 40, 3) := by decide +kernel
theorem dX9_findStandings_110 : decode cX9_findStandings 110 = .ok (.iload_n 3, 1) := by decide +kernel
theorem dX9_findStandings_111 : decode cX9_findStandings 111 = .ok (.aload_n 0, 1) := by decide +kernel
theorem dX9_findStandings_112 : decode cX9_findStandings 112 = .ok (.getfield 37, 3) := by decide +kernel
theorem dX9_findStandings_115 : decode cX9_findStandings 115 = .ok (.iload_n 3, 1) := by decide +kernel
theorem dX9_findStandings_116 : decode cX9_findStandings 116 = .ok (.iaload, 1) := by decide +kernel
theorem dX9_findStandings_117 : decode cX9_findStandings 117 = .ok (.iastore, 1) := by decide +kernel
theorem dX9_findStandings_118 : decode cX9_findStandings 118 = .ok (.iinc 3 1, 3) := by decide +kernel
theorem dX9_findStandings_121 : decode cX9_findStandings 121 = .ok (.goto (-27), 3) := by decide +kernel
theorem dX9_findStandings_124 : decode cX9_findStandings 124 = .ok (.iinc 1 1, 3) := by decide +kernel
theorem dX9_findStandings_127 : decode cX9_findStandings 127 = .ok (.aload_n 0, 1) := by decide +kernel
theorem dX9_findStandings_128 : decode cX9_findStandings 128 = .ok (.getfield 37, 3) := by decide +kernel
theorem dX9_findStandings_131 : decode cX9_findStandings 131 = .ok (.iload_n 2, 1) := by decide +kernel
theorem dX9_findStandings_132 : decode cX9_findStandings 132 = .ok (.dup2, 1) := by decide +kernel
theorem dX9_findStandings_133 : decode cX9_findStandings 133 = .ok (.iaload, 1) := by decide +kernel
theorem dX9_findStandings_134 : decode cX9_findStandings 134 = .ok (.iconst 1, 1) := by decide +kernel
theorem dX9_findStandings_135 : decode cX9_findStandings 135 = .ok (.iadd, 1) := by decide +kernel
theorem dX9_findStandings_136 : decode cX9_findStandings 136 = .ok (.iastore, 1) := by decide +kernel
theorem dX9_findStandings_137 : decode cX9_findStandings 137 = .ok (.goto (-126), 3) := by decide +kernel
theorem dX9_findStandings_140 : decode cX9_findStandings 140 = .ok (.iload_n 1, 1) := by decide +kernel
theorem dX9_findStandings_141 : decode cX9_findStandings 141 = .ok (.ireturn, 1) := by decide +kernel
theorem dX9_placed_0 : decode cX9_placed 0 = .ok (.aload_n 0, 1) := by decide +kernel
theorem dX9_placed_1 : decode cX9_placed 1 = .ok (.getfield 70, 3) := by decide +kernel
theorem dX9_placed_4 : decode cX9_placed 4 = .ok (.aload_n 0, 1) := by decide +kernel
theorem dX9_placed_5 : decode cX9_placed 5 = .ok (.invokevirtual 102, 3) := by decide +kernel
theorem dX9_placed_8 : decode cX9_placed 8 = .ok (.if_icmp .le 6, 3) := by decide +kernel
theorem dX9_placed_11 : decode cX9_placed 11 = .ok (.bipush (-3), 2) := by decide +kernel
theorem dX9_placed_13 : decode cX9_placed 13 = .ok (.ireturn, 1) := by decide +kernel
theorem dX9_placed_14 : decode cX9_placed 14 = .ok (.aload_n 0, 1) := by decide +kernel
theorem dX9_placed_15 : decode cX9_placed 15 = .ok (.invokevirtual 212, 3) := by decide +kernel
theorem dX9_placed_18 : decode cX9_placed 18 = .ok (.istore_n 2, 1) := by decide +kernel
theorem dX9_placed_19 : decode cX9_placed 19 = .ok (.iload_n 1, 1) := by decide +kernel
theorem dX9_placed_20 : decode cX9_placed 20 = .ok (.iconst (-1), 1) := by decide +kernel
theorem dX9_placed_21 : decode cX9_placed 21 = .ok (.if_icmp .ne 7, 3) := by decide +kernel
theorem dX9_placed_24 : decode cX9_placed 24 = .ok (.iload_n 2, 1) := by decide +kernel
theorem dX9_placed_25 : decode cX9_placed 25 = .ok (.goto 26, 3) := by decide +kernel
theorem dX9_placed_28 : decode cX9_placed 28 = .ok (.iload_n 2, 1) := by decide +kernel
theorem dX9_placed_29 : decode cX9_placed 29 = .ok (.ifCond .le 20, 3) := by decide +kernel
theorem dX9_placed_32 : decode cX9_placed 32 = .ok (.aload_n 0, 1) := by decide +kernel
theorem dX9_placed_33 : decode cX9_placed 33 = .ok (.iload_n 1, 1) := by decide +kernel
theorem dX9_placed_34 : decode cX9_placed 34 = .ok (.invokevirtual 88, 3) := by decide +kernel
theorem dX9_placed_37 : decode cX9_placed 37 = .ok (.ifCond .eq 12, 3) := by decide +kernel
theorem dX9_placed_40 : decode cX9_placed 40 = .ok (.aload_n 0, 1) := by decide +kernel
theorem dX9_placed_41 : decode cX9_placed 41 = .ok (.getfield 40, 3) := by decide +kernel
theorem dX9_placed_44 : decode cX9_placed 44 = .ok (.iload_n 1, 1) := by decide +kernel
theorem dX9_placed_45 : decode cX9_placed 45 = .ok (.iaload, 1) := by decide +kernel
theorem dX9_placed_46 : decode cX9_placed 46 = .ok (.goto 5, 3) := by decide +kernel
theorem dX9_placed_49 : decode cX9_placed 49 = .ok (.bipush (-6), 2) := by decide +kernel
theorem dX9_placed_51 : decode cX9_placed 51 = .ok (.ireturn, 1) := by decide +kernel
theorem dX9_pass_0 : decode cX9_pass 0 = .ok (.aload_n 0, 1) := by decide +kernel
theorem dX9_pass_1 : decode cX9_pass 1 = .ok (.getfield 215, 3) := by decide +kernel
theorem dX9_pass_4 : decode cX9_pass 4 = .ok (.ifCond .eq 7, 3) := by decide +kernel
theorem dX9_pass_7 : decode cX9_pass 7 = .ok (.iload_n 1, 1) := by decide +kernel
theorem dX9_pass_8 : decode cX9_pass 8 = .ok (.goto 12, 3) := by decide +kernel
theorem dX9_pass_11 : decode cX9_pass 11 = .ok (.aload_n 0, 1) := by decide +kernel
theorem dX9_pass_12 : decode cX9_pass 12 = .ok (.getfield 43, 3) := by decide +kernel
theorem dX9_pass_15 : decode cX9_pass 15 = .ok (.aload_n 0, 1) := by decide +kernel
theorem dX9_pass_16 : decode cX9_pass 16 = .ok (.getfield 219, 3) := by decide +kernel
theorem dX9_pass_19 : decode cX9_pass 19 = .ok (.iaload, 1) := by decide +kernel
theorem dX9_pass_20 : decode cX9_pass 20 = .ok (.istore_n 2, 1) := by decide +kernel
theorem dX9_pass_21 : decode cX9_pass 21 = .ok (.aload_n 0, 1) := by decide +kernel
theorem dX9_pass_22 : decode cX9_pass 22 = .ok (.getfield 43, 3) := by decide +kernel
theorem dX9_pass_25 : decode cX9_pass 25 = .ok (.aload_n 0, 1) := by decide +kernel
theorem dX9_pass_26 : decode cX9_pass 26 = .ok (.getfield 219, 3) := by decide +kernel
theorem dX9_pass_29 : decode cX9_pass 29 = .ok (.iload_n 2, 1) := by decide +kernel
theorem dX9_pass_30 : decode cX9_pass 30 = .ok (.iastore, 1) := by decide +kernel
theorem dX9_pass_31 : decode cX9_pass 31 = .ok (.aload_n 0, 1) := by decide +kernel
theorem dX9_pass_32 : decode cX9_pass 32 = .ok (.dup, 1) := by decide +kernel
theorem dX9_pass_33 : decode cX9_pass 33 = .ok (.getfield 219, 3) := by decide +kernel
theorem dX9_pass_36 : decode cX9_pass 36 = .ok (.iconst 1, 1) := by decide +kernel
theorem dX9_pass_37 : decode cX9_pass 37 = .ok (.iadd, 1) := by decide +kernel
theorem dX9_pass_38 : decode cX9_pass 38 = .ok (.putfield 219, 3) := by decide +kernel
theorem dX9_pass_41 : decode cX9_pass 41 = .ok (.iload_n 2, 1) := by decide +kernel
theorem dX9_pass_42 : decode cX9_pass 42 = .ok (.ireturn, 1) := by decide +kernel
theorem dX9_passAll_0 : decode cX9_passAll 0 = .ok (.aload_n 0, 1) := by decide +kernel
theorem dX9_passAll_1 : decode cX9_passAll 1 = .ok (.aload_n 0, 1) := by decide +kernel
theorem dX9_passAll_2 : decode cX9_passAll 2 = .ok (.aload_n 0, 1) := by decide +kernel
theorem dX9_passAll_3 : decode cX9_passAll 3 = .ok (.getfield 70, 3) := by decide +kernel
theorem dX9_passAll_6 : decode cX9_passAll 6 = .ok (.invokevirtual 222, 3) := by decide +kernel
theorem dX9_passAll_9 : decode cX9_passAll 9 = .ok (.putfield 70, 3) := by decide +kernel
theorem dX9_passAll_12 : decode cX9_passAll 12 = .ok (.aload_n 0, 1) := by decide +kernel
theorem dX9_passAll_13 : decode cX9_passAll 13 = .ok (.aload_n 0, 1) := by decide +kernel
theorem dX9_passAll_14 : decode cX9_passAll 14 = .ok (.aload_n 0, 1) := by decide +kernel
theorem dX9_passAll_15 : decode cX9_passAll 15 = .ok (.getfield 73, 3) := by decide +kernel
theorem dX9_passAll_18 : decode cX9_passAll 18 = .ok (.invokevirtual 222, 3) := by decide +kernel
theorem dX9_passAll_21 : decode cX9_passAll 21 = .ok (.putfield 73, 3) := by decide +kernel
theorem dX9_passAll_24 : decode cX9_passAll 24 = .ok (.aload_n 0, 1) := by decide +kernel
theorem dX9_passAll_25 : decode cX9_passAll 25 = .ok (.aload_n 0, 1) := by decide +kernel
theorem dX9_passAll_26 : decode cX9_passAll 26 = .ok (.aload_n 0, 1) := by decide +kernel
theorem dX9_passAll_27 : decode cX9_passAll 27 = .ok (.getfield 76, 3) := by decide +kernel
theorem dX9_passAll_30 : decode cX9_passAll 30 = .ok (.invokevirtual 222, 3) := by decide +kernel
theorem dX9_passAll_33 : decode cX9_passAll 33 = .ok (.putfield 76, 3) := by decide +kernel
theorem dX9_passAll_36 : decode cX9_passAll 36 = .ok (.aload_n 0, 1) := by decide +kernel
theorem dX9_passAll_37 : decode cX9_passAll 37 = .ok (.aload_n 0, 1) := by decide +kernel
theorem dX9_passAll_38 : decode cX9_passAll 38 = .ok (.aload_n 0, 1) := by decide +kernel
theorem dX9_passAll_39 : decode cX9_passAll 39 = .ok (.getfield 79, 3) := by decide +kernel
theorem dX9_passAll_42 : decode cX9_passAll 42 = .ok (.invokevirtual 222, 3) := by decide +kernel
theorem dX9_passAll_45 : decode cX9_passAll 45 = .ok (.putfield 79, 3) := by decide +kernel
theorem dX9_passAll_48 : decode cX9_passAll 48 = .ok (.aload_n 0, 1) := by decide +kernel
theorem dX9_passAll_49 : decode cX9_passAll 49 = .ok (.aload_n 0, 1) := by decide +kernel
theorem dX9_passAll_50 : decode cX9_passAll 50 = .ok (.aload_n 0, 1) := by decide +kernel
theorem dX9_passAll_51 : decode cX9_passAll 51 = .ok (.getfield 63, 3) := by decide +kernel
theorem dX9_passAll_54 : decode cX9_passAll 54 = .ok (.invokevirtual 222, 3) := by decide +kernel
theorem dX9_passAll_57 : decode cX9_passAll 57 = .ok (.putfield 63, 3) := by decide +kernel
theorem dX9_passAll_60 : decode cX9_passAll 60 = .ok (.aload_n 0, 1) := by decide +kernel
theorem dX9_passAll_61 : decode cX9_passAll 61 = .ok (.aload_n 0, 1) := by decide +kernel
theorem dX9_passAll_62 : decode cX9_passAll 62 = .ok (.aload_n 0, 1) := by decide +kernel
theorem dX9_passAll_63 : decode cX9_passAll 63 = .ok (.getfield 50, 3) := by decide +kernel
theorem dX9_passAll_66 : decode cX9_passAll 66 = .ok (.invokevirtual 222, 3) := by decide +kernel
theorem dX9_passAll_69 : decode cX9_passAll 69 = .ok (.putfield 50, 3) := by decide +kernel
theorem dX9_passAll_72 : decode cX9_passAll 72 = .ok (.aload_n 0, 1) := by decide +kernel
theorem dX9_passAll_73 : decode cX9_passAll 73 = .ok (.aload_n 0, 1) := by decide +kernel
theorem dX9_passAll_74 : decode cX9_passAll 74 = .ok (.aload_n 0, 1) := by decide +kernel
theorem dX9_passAll_75 : decode cX9_passAll 75 = .ok (.getfield 54, 3) := by decide +kernel
theorem dX9_passAll_78 : decode cX9_passAll 78 = .ok (.invokevirtual 222, 3) := by decide +kernel
theorem dX9_passAll_81 : decode cX9_passAll 81 = .ok (.putfield 54, 3) := by decide +kernel
theorem dX9_passAll_84 : decode cX9_passAll 84 = .ok (.aload_n 0, 1) := by decide +kernel
theorem dX9_passAll_85 : decode cX9_passAll 85 = .ok (.aload_n 0, 1) := by decide +kernel
theorem dX9_passAll_86 : decode cX9_passAll 86 = .ok (.aload_n 0, 1) := by decide +kernel
theorem dX9_passAll_87 : decode cX9_passAll 87 = .ok (.getfield 57, 3) := by decide +kernel
theorem dX9_passAll_90 : decode cX9_passAll 90 = .ok (.invokevirtual 222, 3) := by decide +kernel
theorem dX9_passAll_93 : decode cX9_passAll 93 = .ok (.putfield 57, 3) := by decide +kernel
theorem dX9_passAll_96 : decode cX9_passAll 96 = .ok (.aload_n 0, 1) := by decide +kernel
theorem dX9_passAll_97 : decode cX9_passAll 97 = .ok (.aload_n 0, 1) := by decide +kernel
theorem dX9_passAll_98 : decode cX9_passAll 98 = .ok (.aload_n 0, 1) := by decide +kernel
theorem dX9_passAll_99 : decode cX9_passAll 99 = .ok (.getfield 60, 3) := by decide +kernel
theorem dX9_passAll_102 : decode cX9_passAll 102 = .ok (.invokevirtual 222, 3) := by decide +kernel
theorem dX9_passAll_105 : decode cX9_passAll 105 = .ok (.putfield 60, 3) := by decide +kernel
theorem dX9_passAll_108 : decode cX9_passAll 108 = .ok (.iconst 0, 1) := by decide +kernel
theorem dX9_passAll_109 : decode cX9_passAll 109 = .ok (.istore_n 1, 1) := by decide +kernel
theorem dX9_passAll_110 : decode cX9_passAll 110 = .ok (.iload_n 1, 1) := by decide +kernel
theorem dX9_passAll_111 : decode cX9_passAll 111 = .ok (.bipush 80, 2) := by decide +kernel
theorem dX9_passAll_113 : decode cX9_passAll 113 = .ok (.if_icmp .ge 25, 3) := by decide +kernel
theorem dX9_passAll_116 : decode cX9_passAll 116 = .ok (.aload_n 0, 1) := by decide +kernel
theorem dX9_passAll_117 : decode cX9_passAll 117 = .ok (.getfield 7, 3) := by decide +kernel
theorem dX9_passAll_120 : decode cX9_passAll 120 = .ok (.iload_n 1, 1) := by decide +kernel
theorem dX9_passAll_121 : decode cX9_passAll 121 = .ok (.aload_n 0, 1) := by decide +kernel
theorem dX9_passAll_122 : decode cX9_passAll 122 = .ok (.aload_n 0, 1) := by decide +kernel
theorem dX9_passAll_123 : decode cX9_passAll 123 = .ok (.getfield 7, 3) := by decide +kernel
theorem dX9_passAll_126 : decode cX9_passAll 126 = .ok (.iload_n 1, 1) := by decide +kernel
theorem dX9_passAll_127 : decode cX9_passAll 127 = .ok (.iaload, 1) := by decide +kernel
theorem dX9_passAll_128 : decode cX9_passAll 128 = .ok (.invokevirtual 222, 3) := by decide +kernel
theorem dX9_passAll_131 : decode cX9_passAll 131 = .ok (.iastore, 1) := by decide +kernel
theorem dX9_passAll_132 : decode cX9_passAll 132 = .ok (.iinc 1 1, 3) := by decide +kernel
theorem dX9_passAll_135 : decode cX9_passAll 135 = .ok (.goto (-25), 3) := by decide +kernel
theorem dX9_passAll_138 : decode cX9_passAll 138 = .ok (.iconst 0, 1) := by decide +kernel
theorem dX9_passAll_139 : decode cX9_passAll 139 = .ok (.istore_n 1, 1) := by decide +kernel
theorem dX9_passAll_140 : decode cX9_passAll 140 = .ok (.iload_n 1, 1) := by decide +kernel
theorem dX9_passAll_141 : decode cX9_passAll 141 = .ok (.bipush 8, 2) := by decide +kernel
theorem dX9_passAll_143 : decode cX9_passAll 143 = .ok (.if_icmp .ge 89, 3) := by decide +kernel
theorem dX9_passAll_146 : decode cX9_passAll 146 = .ok (.aload_n 0, 1) := by decide +kernel
theorem dX9_passAll_147 : decode cX9_passAll 147 = .ok (.getfield 13, 3) := by decide +kernel
theorem dX9_passAll_150 : decode cX9_passAll 150 = .ok (.iload_n 1, 1) := by decide +kernel
theorem dX9_passAll_151 : decode cX9_passAll 151 = .ok (.aload_n 0, 1) := by decide +kernel
theorem dX9_passAll_152 : decode cX9_passAll 152 = .ok (.aload_n 0, 1) := by decide +kernel
theorem dX9_passAll_153 : decode cX9_passAll 153 = .ok (.getfield 13, 3) := by decide +kernel
theorem dX9_passAll_156 : decode cX9_passAll 156 = .ok (.iload_n 1, 1) := by decide +kernel
theorem dX9_passAll_157 : decode cX9_passAll 157 = .ok (.iaload, 1) := by decide +kernel
theorem dX9_passAll_158 : decode cX9_passAll 158 = .ok (.invokevirtual 222, 3) := by decide +kernel
theorem dX9_passAll_161 : decode cX9_passAll 161 = .ok (.iastore, 1) := by decide +kernel
theorem dX9_passAll_162 : decode cX9_passAll 162 = .ok (.aload_n 0, 1) := by decide +kernel
theorem dX9_passAll_163 : decode cX9_passAll 163 = .ok (.getfield 16, 3) := by decide +kernel
theorem dX9_passAll_166 : decode cX9_passAll 166 = .ok (.iload_n 1, 1) := by decide +kernel
theorem dX9_passAll_167 : decode cX9_passAll 167 = .ok (.aload_n 0, 1) := by decide +kernel
theorem dX9_passAll_168 : decode cX9_passAll 168 = .ok (.aload_n 0, 1) := by decide +kernel
theorem dX9_passAll_169 : decode cX9_passAll 169 = .ok (.getfield 16, 3) := by decide +kernel
theorem dX9_passAll_172 : decode cX9_passAll 172 = .ok (.iload_n 1, 1) := by decide +kernel
theorem dX9_passAll_173 : decode cX9_passAll 173 = .ok (.iaload, 1) := by decide +kernel
theorem dX9_passAll_174 : decode cX9_passAll 174 = .ok (.invokevirtual 222, 3) := by decide +kernel
theorem dX9_passAll_177 : decode cX9_passAll 177 = .ok (.iastore, 1) := by decide +kernel
theorem dX9_passAll_178 : decode cX9_passAll 178 = .ok (.aload_n 0, 1) := by decide +kernel
theorem dX9_passAll_179 : decode cX9_passAll 179 = .ok (.getfield 19, 3) := by decide +kernel
theorem dX9_passAll_182 : decode cX9_passAll 182 = .ok (.iload_n 1, 1) := by decide +kernel
theorem dX9_passAll_183 : decode cX9_passAll 183 = .ok (.aload_n 0, 1) := by decide +kernel
theorem dX9_passAll_184 : decode cX9_passAll 184 = .ok (.aload_n 0, 1) := by decide +kernel
theorem dX9_passAll_185 : decode cX9_passAll 185 = .ok (.getfield 19, 3) := by decide +kernel
theorem dX9_passAll_188 : decode cX9_passAll 188 = .ok (.iload_n 1, 1) := by decide +kernel
theorem dX9_passAll_189 : decode cX9_passAll 189 = .ok (.iaload, 1) := by decide +kernel
theorem dX9_passAll_190 : decode cX9_passAll 190 = .ok (.invokevirtual 222, 3) := by decide +kernel
theorem dX9_passAll_193 : decode cX9_passAll 193 = .ok (.iastore, 1) := by decide +kernel
theorem dX9_passAll_194 : decode cX9_passAll 194 = .ok (.aload_n 0, 1) := by decide +kernel
theorem dX9_passAll_195 : decode cX9_passAll 195 = .ok (.getfield 22, 3) := by decide +kernel
theorem dX9_passAll_198 : decode cX9_passAll 198 = .ok (.iload_n 1, 1) := by decide +kernel
theorem dX9_passAll_199 : decode cX9_passAll 199 = .ok (.aload_n 0, 1) := by decide +kernel
theorem dX9_passAll_200 : decode cX9_passAll 200 = .ok (.aload_n 0, 1) := by decide +kernel
theorem dX9_passAll_201 : decode cX9_passAll 201 = .ok (.getfield 22, 3) := by decide +kernel
theorem dX9_passAll_204 : decode cX9_passAll 204 = .ok (.iload_n 1, 1) := by decide +kernel
theorem dX9_passAll_205 : decode cX9_passAll 205 = .ok (.iaload, 1) := by decide +kernel
theorem dX9_passAll_206 : decode cX9_passAll 206 = .ok (.invokevirtual 222, 3) := by decide +kernel
theorem dX9_passAll_209 : decode cX9_passAll 209 = .ok (.iastore, 1) := by decide +kernel
theorem dX9_passAll_210 : decode cX9_passAll 210 = .ok (.aload_n 0, 1) := by decide +kernel
theorem dX9_passAll_211 : decode cX9_passAll 211 = .ok (.getfield 25, 3) := by decide +kernel
theorem dX9_passAll_214 : decode cX9_passAll 214 = .ok (.iload_n 1, 1) := by decide +kernel
theorem dX9_passAll_215 : decode cX9_passAll 215 = .ok (.aload_n 0, 1) := by decide +kernel
theorem dX9_passAll_216 : decode cX9_passAll 216 = .ok (.aload_n 0, 1) := by decide +kernel
theorem dX9_passAll_217 : decode cX9_passAll 217 = .ok (.getfield 25, 3) := by decide +kernel
theorem dX9_passAll_220 : decode cX9_passAll 220 = .ok (.iload_n 1, 1) := by decide +kernel
theorem dX9_passAll_221 : decode cX9_passAll 221 = .ok (.iaload, 1) := by decide +kernel
theorem dX9_passAll_222 : decode cX9_passAll 222 = .ok (.invokevirtual 222, 3) := by decide +kernel
theorem dX9_passAll_225 : decode cX9_passAll 225 = .ok (.iastore, 1) := by decide +kernel
theorem dX9_passAll_226 : decode cX9_passAll 226 = .ok (.iinc 1 1, 3) := by decide +kernel
theorem dX9_passAll_229 : decode cX9_passAll 229 = .ok (.goto (-89), 3) := by decide +kernel
theorem dX9_passAll_232 : decode cX9_passAll 232 = .ok (.iconst 0, 1) := by decide +kernel
theorem dX9_passAll_233 : decode cX9_passAll 233 = .ok (.istore_n 1, 1) := by decide +kernel
theorem dX9_passAll_234 : decode cX9_passAll 234 = .ok (.iload_n 1, 1) := by decide +kernel
theorem dX9_passAll_235 : decode cX9_passAll 235 = .ok (.bipush 64, 2) := by decide +kernel
theorem dX9_passAll_237 : decode cX9_passAll 237 = .ok (.if_icmp .ge 25, 3) := by decide +kernel
theorem dX9_passAll_240 : decode cX9_passAll 240 = .ok (.aload_n 0, 1) := by decide +kernel
theorem dX9_passAll_241 : decode cX9_passAll 241 = .ok (.getfield 28, 3) := by decide +kernel
theorem dX9_passAll_244 : decode cX9_passAll 244 = .ok (.iload_n 1, 1) := by decide +kernel
theorem dX9_passAll_245 : decode cX9_passAll 245 = .ok (.aload_n 0, 1) := by decide +kernel
theorem dX9_passAll_246 : decode cX9_passAll 246 = .ok (.aload_n 0, 1) := by decide +kernel
theorem dX9_passAll_247 : decode cX9_passAll 247 = .ok (.getfield 28, 3) := by decide +kernel
theorem dX9_passAll_250 : decode cX9_passAll 250 = .ok (.iload_n 1, 1) := by decide +kernel
theorem dX9_passAll_251 : decode cX9_passAll 251 = .ok (.iaload, 1) := by decide +kernel
theorem dX9_passAll_252 : decode cX9_passAll 252 = .ok (.invokevirtual 222, 3) := by decide +kernel
theorem dX9_passAll_255 : decode cX9_passAll 255 = .ok (.iastore, 1) := by decide +kernel
theorem dX9_passAll_256 : decode cX9_passAll 256 = .ok (.iinc 1 1, 3) := by decide +kernel
theorem dX9_passAll_259 : decode cX9_passAll 259 = .ok (.goto (-25), 3) := by decide +kernel
theorem dX9_passAll_262 : decode cX9_passAll 262 = .ok (.return_, 1) := by decide +kernel
theorem dX9_image_0 : decode cX9_image 0 = .ok (.iload_n 1, 1) := by decide +kernel
theorem dX9_image_1 : decode cX9_image 1 = .ok (.i2l, 1) := by decide +kernel
theorem dX9_image_2 : decode cX9_image 2 = .ok (.lconst 0, 1) := by decide +kernel
theorem dX9_image_3 : decode cX9_image 3 = .ok (.lconst 1, 1) := by decide +kernel
theorem dX9_image_4 : decode cX9_image 4 = .ok (.invokestatic 82, 3) := by decide +kernel
theorem dX9_image_7 : decode cX9_image 7 = .ok (.ifCond .ne 6, 3) := by decide +kernel
theorem dX9_image_10 : decode cX9_image 10 = .ok (.bipush (-2), 2) := by decide +kernel
theorem dX9_image_12 : decode cX9_image 12 = .ok (.ireturn, 1) := by decide +kernel
theorem dX9_image_13 : decode cX9_image 13 = .ok (.aload_n 0, 1) := by decide +kernel
theorem dX9_image_14 : decode cX9_image 14 = .ok (.sipush 240, 3) := by decide +kernel
theorem dX9_image_17 : decode cX9_image 17 = .ok (.iload_n 1, 1) := by decide +kernel
theorem dX9_image_18 : decode cX9_image 18 = .ok (.imul, 1) := by decide +kernel
theorem dX9_image_19 : decode cX9_image 19 = .ok (.putfield 219, 3) := by decide +kernel
theorem dX9_image_22 : decode cX9_image 22 = .ok (.aload_n 0, 1) := by decide +kernel
theorem dX9_image_23 : decode cX9_image 23 = .ok (.iconst 1, 1) := by decide +kernel
theorem dX9_image_24 : decode cX9_image 24 = .ok (.putfield 215, 3) := by decide +kernel
theorem dX9_image_27 : decode cX9_image 27 = .ok (.aload_n 0, 1) := by decide +kernel
theorem dX9_image_28 : decode cX9_image 28 = .ok (.invokevirtual 225, 3) := by decide +kernel
theorem dX9_image_31 : decode cX9_image 31 = .ok (.aload_n 0, 1) := by decide +kernel
theorem dX9_image_32 : decode cX9_image 32 = .ok (.getfield 46, 3) := by decide +kernel
theorem dX9_image_35 : decode cX9_image 35 = .ok (.iload_n 1, 1) := by decide +kernel
theorem dX9_image_36 : decode cX9_image 36 = .ok (.iconst 1, 1) := by decide +kernel
theorem dX9_image_37 : decode cX9_image 37 = .ok (.bastore, 1) := by decide +kernel
theorem dX9_image_38 : decode cX9_image 38 = .ok (.iconst 1, 1) := by decide +kernel
theorem dX9_image_39 : decode cX9_image 39 = .ok (.ireturn, 1) := by decide +kernel
theorem dX9_restore_0 : decode cX9_restore 0 = .ok (.iload_n 1, 1) := by decide +kernel
theorem dX9_restore_1 : decode cX9_restore 1 = .ok (.i2l, 1) := by decide +kernel
theorem dX9_restore_2 : decode cX9_restore 2 = .ok (.lconst 0, 1) := by decide +kernel
theorem dX9_restore_3 : decode cX9_restore 3 = .ok (.lconst 1, 1) := by decide +kernel
theorem dX9_restore_4 : decode cX9_restore 4 = .ok (.invokestatic 82, 3) := by decide +kernel
theorem dX9_restore_7 : decode cX9_restore 7 = .ok (.ifCond .ne 6, 3) := by decide +kernel
theorem dX9_restore_10 : decode cX9_restore 10 = .ok (.bipush (-2), 2) := by decide +kernel
theorem dX9_restore_12 : decode cX9_restore 12 = .ok (.ireturn, 1) := by decide +kernel
theorem dX9_restore_13 : decode cX9_restore 13 = .ok (.aload_n 0, 1) := by decide +kernel
theorem dX9_restore_14 : decode cX9_restore 14 = .ok (.getfield 46, 3) := by decide +kernel
theorem dX9_restore_17 : decode cX9_restore 17 = .ok (.iload_n 1, 1) := by decide +kernel
theorem dX9_restore_18 : decode cX9_restore 18 = .ok (.baload, 1) := by decide +kernel
theorem dX9_restore_19 : decode cX9_restore 19 = .ok (.ifCond .ne 6, 3) := by decide +kernel
theorem dX9_restore_22 : decode cX9_restore 22 = .ok (.bipush (-3), 2) := by decide +kernel
theorem dX9_restore_24 : decode cX9_restore 24 = .ok (.ireturn, 1) := by decide +kernel
theorem dX9_restore_25 : decode cX9_restore 25 = .ok (.aload_n 0, 1) := by decide +kernel
theorem dX9_restore_26 : decode cX9_restore 26 = .ok (.sipush 240, 3) := by decide +kernel
theorem dX9_restore_29 : decode cX9_restore 29 = .ok (.iload_n 1, 1) := by decide +kernel
theorem dX9_restore_30 : decode cX9_restore 30 = .ok (.imul, 1) := by decide +kernel
theorem dX9_restore_31 : decode cX9_restore 31 = .ok (.putfield 219, 3) := by decide +kernel
theorem dX9_restore_34 : decode cX9_restore 34 = .ok (.aload_n 0, 1) := by decide +kernel
theorem dX9_restore_35 : decode cX9_restore 35 = .ok (.iconst 0, 1) := by decide +kernel
theorem dX9_restore_36 : decode cX9_restore 36 = .ok (.putfield 215, 3) := by decide +kernel
theorem dX9_restore_39 : decode cX9_restore 39 = .ok (.aload_n 0, 1) := by decide +kernel
theorem dX9_restore_40 : decode cX9_restore 40 = .ok (.invokevirtual 225, 3) := by decide +kernel
theorem dX9_restore_43 : decode cX9_restore 43 = .ok (.iconst 1, 1) := by decide +kernel
theorem dX9_restore_44 : decode cX9_restore 44 = .ok (.ireturn, 1) := by decide +kernel
theorem dX9_told_0 : decode cX9_told 0 = .ok (.iload_n 1, 1) := by decide +kernel
theorem dX9_told_1 : decode cX9_told 1 = .ok (.i2l, 1) := by decide +kernel
theorem dX9_told_2 : decode cX9_told 2 = .ok (.ldc2_w 228, 3) := by decide +kernel
theorem dX9_told_5 : decode cX9_told 5 = .ok (.bipush 9, 2) := by decide +kernel
theorem dX9_told_7 : decode cX9_told 7 = .ok (.aload_n 0, 1) := by decide +kernel
theorem dX9_told_8 : decode cX9_told 8 = .ok (.getfield 70, 3) := by decide +kernel
theorem dX9_told_11 : decode cX9_told 11 = .ok (.iadd, 1) := by decide +kernel
theorem dX9_told_12 : decode cX9_told 12 = .ok (.i2l, 1) := by decide +kernel
theorem dX9_told_13 : decode cX9_told 13 = .ok (.invokestatic 82, 3) := by decide +kernel
theorem dX9_told_16 : decode cX9_told 16 = .ok (.ifCond .eq 13, 3) := by decide +kernel
theorem dX9_told_19 : decode cX9_told 19 = .ok (.aload_n 0, 1) := by decide +kernel
theorem dX9_told_20 : decode cX9_told 20 = .ok (.getfield 25, 3) := by decide +kernel
theorem dX9_told_23 : decode cX9_told 23 = .ok (.iload_n 1, 1) := by decide +kernel
theorem dX9_told_24 : decode cX9_told 24 = .ok (.bipush 10, 2) := by decide +kernel
theorem dX9_told_26 : decode cX9_told 26 = .ok (.isub, 1) := by decide +kernel
theorem dX9_told_27 : decode cX9_told 27 = .ok (.iaload, 1) := by decide +kernel
theorem dX9_told_28 : decode cX9_told 28 = .ok (.ireturn, 1) := by decide +kernel
theorem dX9_told_29 : decode cX9_told 29 = .ok (.iload_n 1, 1) := by decide +kernel
theorem dX9_told_30 : decode cX9_told 30 = .ok (.i2l, 1) := by decide +kernel
theorem dX9_told_31 : decode cX9_told 31 = .ok (.ldc2_w 159, 3) := by decide +kernel
theorem dX9_told_34 : decode cX9_told 34 = .ok (.bipush 19, 2) := by decide +kernel
theorem dX9_told_36 : decode cX9_told 36 = .ok (.aload_n 0, 1) := by decide +kernel
theorem dX9_told_37 : decode cX9_told 37 = .ok (.getfield 70, 3) := by decide +kernel
theorem dX9_told_40 : decode cX9_told 40 = .ok (.iadd, 1) := by decide +kernel
theorem dX9_told_41 : decode cX9_told 41 = .ok (.i2l, 1) := by decide +kernel
theorem dX9_told_42 : decode cX9_told 42 = .ok (.invokestatic 82, 3) := by decide +kernel
theorem dX9_told_45 : decode cX9_told 45 = .ok (.ifCond .eq 13, 3) := by decide +kernel
theorem dX9_told_48 : decode cX9_told 48 = .ok (.aload_n 0, 1) := by decide +kernel
theorem dX9_told_49 : decode cX9_told 49 = .ok (.getfield 22, 3) := by decide +kernel
theorem dX9_told_52 : decode cX9_told 52 = .ok (.iload_n 1, 1) := by decide +kernel
theorem dX9_told_53 : decode cX9_told 53 = .ok (.bipush 20, 2) := by decide +kernel
theorem dX9_told_55 : decode cX9_told 55 = .ok (.isub, 1) := by decide +kernel
theorem dX9_told_56 : decode cX9_told 56 = .ok (.iaload, 1) := by decide +kernel
theorem dX9_told_57 : decode cX9_told 57 = .ok (.ireturn, 1) := by decide +kernel
theorem dX9_told_58 : decode cX9_told 58 = .ok (.iload_n 1, 1) := by decide +kernel
theorem dX9_told_59 : decode cX9_told 59 = .ok (.tableswitch 103 0 9 #[53, 58, 63, 68, 73, 78, 83, 88, 93, 98], 53) := by decide +kernel
theorem dX9_told_112 : decode cX9_told 112 = .ok (.aload_n 0, 1) := by decide +kernel
theorem dX9_told_113 : decode cX9_told 113 = .ok (.getfield 96, 3) := by decide +kernel
theorem dX9_told_116 : decode cX9_told 116 = .ok (.ireturn, 1) := by decide +kernel
theorem dX9_told_117 : decode cX9_told 117 = .ok (.aload_n 0, 1) := by decide +kernel
theorem dX9_told_118 : decode cX9_told 118 = .ok (.getfield 70, 3) := by decide +kernel
theorem dX9_told_121 : decode cX9_told 121 = .ok (.ireturn, 1) := by decide +kernel
theorem dX9_told_122 : decode cX9_told 122 = .ok (.aload_n 0, 1) := by decide +kernel
theorem dX9_told_123 : decode cX9_told 123 = .ok (.getfield 73, 3) := by decide +kernel
theorem dX9_told_126 : decode cX9_told 126 = .ok (.ireturn, 1) := by decide +kernel
theorem dX9_told_127 : decode cX9_told 127 = .ok (.aload_n 0, 1) := by decide +kernel
theorem dX9_told_128 : decode cX9_told 128 = .ok (.getfield 76, 3) := by decide +kernel
theorem dX9_told_131 : decode cX9_told 131 = .ok (.ireturn, 1) := by decide +kernel
theorem dX9_told_132 : decode cX9_told 132 = .ok (.aload_n 0, 1) := by decide +kernel
theorem dX9_told_133 : decode cX9_told 133 = .ok (.getfield 79, 3) := by decide +kernel
theorem dX9_told_136 : decode cX9_told 136 = .ok (.ireturn, 1) := by decide +kernel
theorem dX9_told_137 : decode cX9_told 137 = .ok (.aload_n 0, 1) := by decide +kernel
theorem dX9_told_138 : decode cX9_told 138 = .ok (.getfield 63, 3) := by decide +kernel
theorem dX9_told_141 : decode cX9_told 141 = .ok (.ireturn, 1) := by decide +kernel
theorem dX9_told_142 : decode cX9_told 142 = .ok (.aload_n 0, 1) := by decide +kernel
theorem dX9_told_143 : decode cX9_told 143 = .ok (.getfield 50, 3) := by decide +kernel
theorem dX9_told_146 : decode cX9_told 146 = .ok (.ireturn, 1) := by decide +kernel
theorem dX9_told_147 : decode cX9_told 147 = .ok (.aload_n 0, 1) := by decide +kernel
theorem dX9_told_148 : decode cX9_told 148 = .ok (.getfield 54, 3) := by decide +kernel
theorem dX9_told_151 : decode cX9_told 151 = .ok (.ireturn, 1) := by decide +kernel
theorem dX9_told_152 : decode cX9_told 152 = .ok (.aload_n 0, 1) := by decide +kernel
theorem dX9_told_153 : decode cX9_told 153 = .ok (.getfield 57, 3) := by decide +kernel
theorem dX9_told_156 : decode cX9_told 156 = .ok (.ireturn, 1) := by decide +kernel
theorem dX9_told_157 : decode cX9_told 157 = .ok (.aload_n 0, 1) := by decide +kernel
theorem dX9_told_158 : decode cX9_told 158 = .ok (.getfield 60, 3) := by decide +kernel
theorem dX9_told_161 : decode cX9_told 161 = .ok (.ireturn, 1) := by decide +kernel
theorem dX9_told_162 : decode cX9_told 162 = .ok (.bipush (-2), 2) := by decide +kernel
theorem dX9_told_164 : decode cX9_told 164 = .ok (.ireturn, 1) := by decide +kernel
theorem dJ6_numberOfTrailingZeros_0f7a4_0 : decode cJ6_numberOfTrailingZeros_0f7a4 0 = .ok (.iload_n 0, 1) := by decide +kernel
theorem dJ6_numberOfTrailingZeros_0f7a4_1 : decode cJ6_numberOfTrailingZeros_0f7a4 1 = .ok (.iconst (-1), 1) := by decide +kernel
theorem dJ6_numberOfTrailingZeros_0f7a4_2 : decode cJ6_numberOfTrailingZeros_0f7a4 2 = .ok (.ixor, 1) := by decide +kernel
theorem dJ6_numberOfTrailingZeros_0f7a4_3 : decode cJ6_numberOfTrailingZeros_0f7a4 3 = .ok (.iload_n 0, 1) := by decide +kernel
theorem dJ6_numberOfTrailingZeros_0f7a4_4 : decode cJ6_numberOfTrailingZeros_0f7a4 4 = .ok (.iconst 1, 1) := by decide +kernel
theorem dJ6_numberOfTrailingZeros_0f7a4_5 : decode cJ6_numberOfTrailingZeros_0f7a4 5 = .ok (.isub, 1) := by decide +kernel
theorem dJ6_numberOfTrailingZeros_0f7a4_6 : decode cJ6_numberOfTrailingZeros_0f7a4 6 = .ok (.iand, 1) := by decide +kernel
theorem dJ6_numberOfTrailingZeros_0f7a4_7 : decode cJ6_numberOfTrailingZeros_0f7a4 7 = .ok (.istore_n 0, 1) := by decide +kernel
theorem dJ6_numberOfTrailingZeros_0f7a4_8 : decode cJ6_numberOfTrailingZeros_0f7a4 8 = .ok (.iload_n 0, 1) := by decide +kernel
theorem dJ6_numberOfTrailingZeros_0f7a4_9 : decode cJ6_numberOfTrailingZeros_0f7a4 9 = .ok (.ifCond .gt 8, 3) := by decide +kernel
theorem dJ6_numberOfTrailingZeros_0f7a4_12 : decode cJ6_numberOfTrailingZeros_0f7a4 12 = .ok (.iload_n 0, 1) := by decide +kernel
theorem dJ6_numberOfTrailingZeros_0f7a4_13 : decode cJ6_numberOfTrailingZeros_0f7a4 13 = .ok (.bipush 32, 2) := by decide +kernel
theorem dJ6_numberOfTrailingZeros_0f7a4_15 : decode cJ6_numberOfTrailingZeros_0f7a4 15 = .ok (.iand, 1) := by decide +kernel
theorem dJ6_numberOfTrailingZeros_0f7a4_16 : decode cJ6_numberOfTrailingZeros_0f7a4 16 = .ok (.ireturn, 1) := by decide +kernel
theorem dJ6_numberOfTrailingZeros_0f7a4_17 : decode cJ6_numberOfTrailingZeros_0f7a4 17 = .ok (.iconst 1, 1) := by decide +kernel
theorem dJ6_numberOfTrailingZeros_0f7a4_18 : decode cJ6_numberOfTrailingZeros_0f7a4 18 = .ok (.istore_n 1, 1) := by decide +kernel
theorem dJ6_numberOfTrailingZeros_0f7a4_19 : decode cJ6_numberOfTrailingZeros_0f7a4 19 = .ok (.iload_n 0, 1) := by decide +kernel
theorem dJ6_numberOfTrailingZeros_0f7a4_20 : decode cJ6_numberOfTrailingZeros_0f7a4 20 = .ok (.ldc_w 264, 3) := by decide +kernel
theorem dJ6_numberOfTrailingZeros_0f7a4_23 : decode cJ6_numberOfTrailingZeros_0f7a4 23 = .ok (.if_icmp .le 11, 3) := by decide +kernel
theorem dJ6_numberOfTrailingZeros_0f7a4_26 : decode cJ6_numberOfTrailingZeros_0f7a4 26 = .ok (.iinc 1 16, 3) := by decide +kernel
theorem dJ6_numberOfTrailingZeros_0f7a4_29 : decode cJ6_numberOfTrailingZeros_0f7a4 29 = .ok (.iload_n 0, 1) := by decide +kernel
theorem dJ6_numberOfTrailingZeros_0f7a4_30 : decode cJ6_numberOfTrailingZeros_0f7a4 30 = .ok (.bipush 16, 2) := by decide +kernel
theorem dJ6_numberOfTrailingZeros_0f7a4_32 : decode cJ6_numberOfTrailingZeros_0f7a4 32 = .ok (.iushr, 1) := by decide +kernel
theorem dJ6_numberOfTrailingZeros_0f7a4_33 : decode cJ6_numberOfTrailingZeros_0f7a4 33 = .ok (.istore_n 0, 1) := by decide +kernel
theorem dJ6_numberOfTrailingZeros_0f7a4_34 : decode cJ6_numberOfTrailingZeros_0f7a4 34 = .ok (.iload_n 0, 1) := by decide +kernel
theorem dJ6_numberOfTrailingZeros_0f7a4_35 : decode cJ6_numberOfTrailingZeros_0f7a4 35 = .ok (.sipush 256, 3) := by decide +kernel
theorem dJ6_numberOfTrailingZeros_0f7a4_38 : decode cJ6_numberOfTrailingZeros_0f7a4 38 = .ok (.if_icmp .le 11, 3) := by decide +kernel
theorem dJ6_numberOfTrailingZeros_0f7a4_41 : decode cJ6_numberOfTrailingZeros_0f7a4 41 = .ok (.iinc 1 8, 3) := by decide +kernel
theorem dJ6_numberOfTrailingZeros_0f7a4_44 : decode cJ6_numberOfTrailingZeros_0f7a4 44 = .ok (.iload_n 0, 1) := by decide +kernel
theorem dJ6_numberOfTrailingZeros_0f7a4_45 : decode cJ6_numberOfTrailingZeros_0f7a4 45 = .ok (.bipush 8, 2) := by decide +kernel
theorem dJ6_numberOfTrailingZeros_0f7a4_47 : decode cJ6_numberOfTrailingZeros_0f7a4 47 = .ok (.iushr, 1) := by decide +kernel
theorem dJ6_numberOfTrailingZeros_0f7a4_48 : decode cJ6_numberOfTrailingZeros_0f7a4 48 = .ok (.istore_n 0, 1) := by decide +kernel
theorem dJ6_numberOfTrailingZeros_0f7a4_49 : decode cJ6_numberOfTrailingZeros_0f7a4 49 = .ok (.iload_n 0, 1) := by decide +kernel
theorem dJ6_numberOfTrailingZeros_0f7a4_50 : decode cJ6_numberOfTrailingZeros_0f7a4 50 = .ok (.bipush 16, 2) := by decide +kernel
theorem dJ6_numberOfTrailingZeros_0f7a4_52 : decode cJ6_numberOfTrailingZeros_0f7a4 52 = .ok (.if_icmp .le 10, 3) := by decide +kernel
theorem dJ6_numberOfTrailingZeros_0f7a4_55 : decode cJ6_numberOfTrailingZeros_0f7a4 55 = .ok (.iinc 1 4, 3) := by decide +kernel
theorem dJ6_numberOfTrailingZeros_0f7a4_58 : decode cJ6_numberOfTrailingZeros_0f7a4 58 = .ok (.iload_n 0, 1) := by decide +kernel
theorem dJ6_numberOfTrailingZeros_0f7a4_59 : decode cJ6_numberOfTrailingZeros_0f7a4 59 = .ok (.iconst 4, 1) := by decide +kernel
theorem dJ6_numberOfTrailingZeros_0f7a4_60 : decode cJ6_numberOfTrailingZeros_0f7a4 60 = .ok (.iushr, 1) := by decide +kernel
theorem dJ6_numberOfTrailingZeros_0f7a4_61 : decode cJ6_numberOfTrailingZeros_0f7a4 61 = .ok (.istore_n 0, 1) := by decide +kernel
theorem dJ6_numberOfTrailingZeros_0f7a4_62 : decode cJ6_numberOfTrailingZeros_0f7a4 62 = .ok (.iload_n 0, 1) := by decide +kernel
theorem dJ6_numberOfTrailingZeros_0f7a4_63 : decode cJ6_numberOfTrailingZeros_0f7a4 63 = .ok (.iconst 4, 1) := by decide +kernel
theorem dJ6_numberOfTrailingZeros_0f7a4_64 : decode cJ6_numberOfTrailingZeros_0f7a4 64 = .ok (.if_icmp .le 10, 3) := by decide +kernel
theorem dJ6_numberOfTrailingZeros_0f7a4_67 : decode cJ6_numberOfTrailingZeros_0f7a4 67 = .ok (.iinc 1 2, 3) := by decide +kernel
theorem dJ6_numberOfTrailingZeros_0f7a4_70 : decode cJ6_numberOfTrailingZeros_0f7a4 70 = .ok (.iload_n 0, 1) := by decide +kernel
theorem dJ6_numberOfTrailingZeros_0f7a4_71 : decode cJ6_numberOfTrailingZeros_0f7a4 71 = .ok (.iconst 2, 1) := by decide +kernel
theorem dJ6_numberOfTrailingZeros_0f7a4_72 : decode cJ6_numberOfTrailingZeros_0f7a4 72 = .ok (.iushr, 1) := by decide +kernel
theorem dJ6_numberOfTrailingZeros_0f7a4_73 : decode cJ6_numberOfTrailingZeros_0f7a4 73 = .ok (.istore_n 0, 1) := by decide +kernel
theorem dJ6_numberOfTrailingZeros_0f7a4_74 : decode cJ6_numberOfTrailingZeros_0f7a4 74 = .ok (.iload_n 1, 1) := by decide +kernel
theorem dJ6_numberOfTrailingZeros_0f7a4_75 : decode cJ6_numberOfTrailingZeros_0f7a4 75 = .ok (.iload_n 0, 1) := by decide +kernel
theorem dJ6_numberOfTrailingZeros_0f7a4_76 : decode cJ6_numberOfTrailingZeros_0f7a4 76 = .ok (.iconst 1, 1) := by decide +kernel
theorem dJ6_numberOfTrailingZeros_0f7a4_77 : decode cJ6_numberOfTrailingZeros_0f7a4 77 = .ok (.iushr, 1) := by decide +kernel
theorem dJ6_numberOfTrailingZeros_0f7a4_78 : decode cJ6_numberOfTrailingZeros_0f7a4 78 = .ok (.iadd, 1) := by decide +kernel
theorem dJ6_numberOfTrailingZeros_0f7a4_79 : decode cJ6_numberOfTrailingZeros_0f7a4 79 = .ok (.ireturn, 1) := by decide +kernel
theorem dJ6_bitCount_0f7a4_0 : decode cJ6_bitCount_0f7a4 0 = .ok (.iload_n 0, 1) := by decide +kernel
theorem dJ6_bitCount_0f7a4_1 : decode cJ6_bitCount_0f7a4 1 = .ok (.iload_n 0, 1) := by decide +kernel
theorem dJ6_bitCount_0f7a4_2 : decode cJ6_bitCount_0f7a4 2 = .ok (.iconst 1, 1) := by decide +kernel
theorem dJ6_bitCount_0f7a4_3 : decode cJ6_bitCount_0f7a4 3 = .ok (.iushr, 1) := by decide +kernel
theorem dJ6_bitCount_0f7a4_4 : decode cJ6_bitCount_0f7a4 4 = .ok (.ldc_w 265, 3) := by decide +kernel
theorem dJ6_bitCount_0f7a4_7 : decode cJ6_bitCount_0f7a4 7 = .ok (.iand, 1) := by decide +kernel
theorem dJ6_bitCount_0f7a4_8 : decode cJ6_bitCount_0f7a4 8 = .ok (.isub, 1) := by decide +kernel
theorem dJ6_bitCount_0f7a4_9 : decode cJ6_bitCount_0f7a4 9 = .ok (.istore_n 0, 1) := by decide +kernel
theorem dJ6_bitCount_0f7a4_10 : decode cJ6_bitCount_0f7a4 10 = .ok (.iload_n 0, 1) := by decide +kernel
theorem dJ6_bitCount_0f7a4_11 : decode cJ6_bitCount_0f7a4 11 = .ok (.ldc_w 266, 3) := by decide +kernel
theorem dJ6_bitCount_0f7a4_14 : decode cJ6_bitCount_0f7a4 14 = .ok (.iand, 1) := by decide +kernel
theorem dJ6_bitCount_0f7a4_15 : decode cJ6_bitCount_0f7a4 15 = .ok (.iload_n 0, 1) := by decide +kernel
theorem dJ6_bitCount_0f7a4_16 : decode cJ6_bitCount_0f7a4 16 = .ok (.iconst 2, 1) := by decide +kernel
theorem dJ6_bitCount_0f7a4_17 : decode cJ6_bitCount_0f7a4 17 = .ok (.iushr, 1) := by decide +kernel
theorem dJ6_bitCount_0f7a4_18 : decode cJ6_bitCount_0f7a4 18 = .ok (.ldc_w 266, 3) := by decide +kernel
theorem dJ6_bitCount_0f7a4_21 : decode cJ6_bitCount_0f7a4 21 = .ok (.iand, 1) := by decide +kernel
theorem dJ6_bitCount_0f7a4_22 : decode cJ6_bitCount_0f7a4 22 = .ok (.iadd, 1) := by decide +kernel
theorem dJ6_bitCount_0f7a4_23 : decode cJ6_bitCount_0f7a4 23 = .ok (.istore_n 0, 1) := by decide +kernel
theorem dJ6_bitCount_0f7a4_24 : decode cJ6_bitCount_0f7a4 24 = .ok (.iload_n 0, 1) := by decide +kernel
theorem dJ6_bitCount_0f7a4_25 : decode cJ6_bitCount_0f7a4 25 = .ok (.iload_n 0, 1) := by decide +kernel
theorem dJ6_bitCount_0f7a4_26 : decode cJ6_bitCount_0f7a4 26 = .ok (.iconst 4, 1) := by decide +kernel
theorem dJ6_bitCount_0f7a4_27 : decode cJ6_bitCount_0f7a4 27 = .ok (.iushr, 1) := by decide +kernel
theorem dJ6_bitCount_0f7a4_28 : decode cJ6_bitCount_0f7a4 28 = .ok (.iadd, 1) := by decide +kernel
theorem dJ6_bitCount_0f7a4_29 : decode cJ6_bitCount_0f7a4 29 = .ok (.ldc_w 267, 3) := by decide +kernel
theorem dJ6_bitCount_0f7a4_32 : decode cJ6_bitCount_0f7a4 32 = .ok (.iand, 1) := by decide +kernel
theorem dJ6_bitCount_0f7a4_33 : decode cJ6_bitCount_0f7a4 33 = .ok (.istore_n 0, 1) := by decide +kernel
theorem dJ6_bitCount_0f7a4_34 : decode cJ6_bitCount_0f7a4 34 = .ok (.iload_n 0, 1) := by decide +kernel
theorem dJ6_bitCount_0f7a4_35 : decode cJ6_bitCount_0f7a4 35 = .ok (.iload_n 0, 1) := by decide +kernel
theorem dJ6_bitCount_0f7a4_36 : decode cJ6_bitCount_0f7a4 36 = .ok (.bipush 8, 2) := by decide +kernel
theorem dJ6_bitCount_0f7a4_38 : decode cJ6_bitCount_0f7a4 38 = .ok (.iushr, 1) := by decide +kernel
theorem dJ6_bitCount_0f7a4_39 : decode cJ6_bitCount_0f7a4 39 = .ok (.iadd, 1) := by decide +kernel
theorem dJ6_bitCount_0f7a4_40 : decode cJ6_bitCount_0f7a4 40 = .ok (.istore_n 0, 1) := by decide +kernel
theorem dJ6_bitCount_0f7a4_41 : decode cJ6_bitCount_0f7a4 41 = .ok (.iload_n 0, 1) := by decide +kernel
theorem dJ6_bitCount_0f7a4_42 : decode cJ6_bitCount_0f7a4 42 = .ok (.iload_n 0, 1) := by decide +kernel
theorem dJ6_bitCount_0f7a4_43 : decode cJ6_bitCount_0f7a4 43 = .ok (.bipush 16, 2) := by decide +kernel
theorem dJ6_bitCount_0f7a4_45 : decode cJ6_bitCount_0f7a4 45 = .ok (.iushr, 1) := by decide +kernel
theorem dJ6_bitCount_0f7a4_46 : decode cJ6_bitCount_0f7a4 46 = .ok (.iadd, 1) := by decide +kernel
theorem dJ6_bitCount_0f7a4_47 : decode cJ6_bitCount_0f7a4 47 = .ok (.istore_n 0, 1) := by decide +kernel
theorem dJ6_bitCount_0f7a4_48 : decode cJ6_bitCount_0f7a4 48 = .ok (.iload_n 0, 1) := by decide +kernel
theorem dJ6_bitCount_0f7a4_49 : decode cJ6_bitCount_0f7a4 49 = .ok (.bipush 63, 2) := by decide +kernel
theorem dJ6_bitCount_0f7a4_51 : decode cJ6_bitCount_0f7a4 51 = .ok (.iand, 1) := by decide +kernel
theorem dJ6_bitCount_0f7a4_52 : decode cJ6_bitCount_0f7a4 52 = .ok (.ireturn, 1) := by decide +kernel
theorem dJ9_abs_0f7a4_0 : decode cJ9_abs_0f7a4 0 = .ok (.iload_n 0, 1) := by decide +kernel
theorem dJ9_abs_0f7a4_1 : decode cJ9_abs_0f7a4 1 = .ok (.ifCond .ge 8, 3) := by decide +kernel
theorem dJ9_abs_0f7a4_4 : decode cJ9_abs_0f7a4 4 = .ok (.iload_n 0, 1) := by decide +kernel
theorem dJ9_abs_0f7a4_5 : decode cJ9_abs_0f7a4 5 = .ok (.ineg, 1) := by decide +kernel
theorem dJ9_abs_0f7a4_6 : decode cJ9_abs_0f7a4 6 = .ok (.goto 4, 3) := by decide +kernel
theorem dJ9_abs_0f7a4_9 : decode cJ9_abs_0f7a4 9 = .ok (.iload_n 0, 1) := by decide +kernel
theorem dJ9_abs_0f7a4_10 : decode cJ9_abs_0f7a4 10 = .ok (.ireturn, 1) := by decide +kernel
theorem dJ9_max_7cf53_0 : decode cJ9_max_7cf53 0 = .ok (.iload_n 0, 1) := by decide +kernel
theorem dJ9_max_7cf53_1 : decode cJ9_max_7cf53 1 = .ok (.iload_n 1, 1) := by decide +kernel
theorem dJ9_max_7cf53_2 : decode cJ9_max_7cf53 2 = .ok (.if_icmp .lt 7, 3) := by decide +kernel
theorem dJ9_max_7cf53_5 : decode cJ9_max_7cf53 5 = .ok (.iload_n 0, 1) := by decide +kernel
theorem dJ9_max_7cf53_6 : decode cJ9_max_7cf53 6 = .ok (.goto 4, 3) := by decide +kernel
theorem dJ9_max_7cf53_9 : decode cJ9_max_7cf53 9 = .ok (.iload_n 1, 1) := by decide +kernel
theorem dJ9_max_7cf53_10 : decode cJ9_max_7cf53 10 = .ok (.ireturn, 1) := by decide +kernel
theorem dJ9_min_7cf53_0 : decode cJ9_min_7cf53 0 = .ok (.iload_n 0, 1) := by decide +kernel
theorem dJ9_min_7cf53_1 : decode cJ9_min_7cf53 1 = .ok (.iload_n 1, 1) := by decide +kernel
theorem dJ9_min_7cf53_2 : decode cJ9_min_7cf53 2 = .ok (.if_icmp .gt 7, 3) := by decide +kernel
theorem dJ9_min_7cf53_5 : decode cJ9_min_7cf53 5 = .ok (.iload_n 0, 1) := by decide +kernel
theorem dJ9_min_7cf53_6 : decode cJ9_min_7cf53 6 = .ok (.goto 4, 3) := by decide +kernel
theorem dJ9_min_7cf53_9 : decode cJ9_min_7cf53 9 = .ok (.iload_n 1, 1) := by decide +kernel
theorem dJ9_min_7cf53_10 : decode cJ9_min_7cf53 10 = .ok (.ireturn, 1) := by decide +kernel
theorem dL_law_0 : decode cL_law 0 = .ok (.new 7, 3) := by decide +kernel
theorem dL_law_3 : decode cL_law 3 = .ok (.dup, 1) := by decide +kernel
theorem dL_law_4 : decode cL_law 4 = .ok (.invokespecial 9, 3) := by decide +kernel
theorem dL_law_7 : decode cL_law 7 = .ok (.astore_n 1, 1) := by decide +kernel
theorem dL_law_8 : decode cL_law 8 = .ok (.new 10, 3) := by decide +kernel
theorem dL_law_11 : decode cL_law 11 = .ok (.dup, 1) := by decide +kernel
theorem dL_law_12 : decode cL_law 12 = .ok (.invokespecial 12, 3) := by decide +kernel
theorem dL_law_15 : decode cL_law 15 = .ok (.astore_n 2, 1) := by decide +kernel
theorem dL_law_16 : decode cL_law 16 = .ok (.iconst 0, 1) := by decide +kernel
theorem dL_law_17 : decode cL_law 17 = .ok (.istore_n 3, 1) := by decide +kernel
theorem dL_law_18 : decode cL_law 18 = .ok (.iload_n 3, 1) := by decide +kernel
theorem dL_law_19 : decode cL_law 19 = .ok (.aload_n 0, 1) := by decide +kernel
theorem dL_law_20 : decode cL_law 20 = .ok (.arraylength, 1) := by decide +kernel
theorem dL_law_21 : decode cL_law 21 = .ok (.iconst 4, 1) := by decide +kernel
theorem dL_law_22 : decode cL_law 22 = .ok (.isub, 1) := by decide +kernel
theorem dL_law_23 : decode cL_law 23 = .ok (.if_icmp .gt 953, 3) := by decide +kernel
theorem dL_law_26 : decode cL_law 26 = .ok (.aload_n 0, 1) := by decide +kernel
theorem dL_law_27 : decode cL_law 27 = .ok (.iload_n 3, 1) := by decide +kernel
theorem dL_law_28 : decode cL_law 28 = .ok (.iaload, 1) := by decide +kernel
theorem dL_law_29 : decode cL_law 29 = .ok (.bipush 31, 2) := by decide +kernel
theorem dL_law_31 : decode cL_law 31 = .ok (.iand, 1) := by decide +kernel
theorem dL_law_32 : decode cL_law 32 = .ok (.tableswitch 938 0 29 #[136, 159, 182, 205, 218, 241, 254, 287, 310, 323, 346, 369, 392, 405, 448, 471, 494, 537, 570, 604, 638, 671, 714, 747, 780, 823, 846, 869, 892, 915], 136) := by decide +kernel
theorem dL_law_168 : decode cL_law 168 = .ok (.aload_n 1, 1) := by decide +kernel
theorem dL_law_169 : decode cL_law 169 = .ok (.aload_n 0, 1) := by decide +kernel
theorem dL_law_170 : decode cL_law 170 = .ok (.iload_n 3, 1) := by decide +kernel
theorem dL_law_171 : decode cL_law 171 = .ok (.iconst 1, 1) := by decide +kernel
theorem dL_law_172 : decode cL_law 172 = .ok (.iadd, 1) := by decide +kernel
theorem dL_law_173 : decode cL_law 173 = .ok (.iaload, 1) := by decide +kernel
theorem dL_law_174 : decode cL_law 174 = .ok (.invokevirtual 13, 3) := by decide +kernel
theorem dL_law_177 : decode cL_law 177 = .ok (.aload_n 2, 1) := by decide +kernel
theorem dL_law_178 : decode cL_law 178 = .ok (.aload_n 0, 1) := by decide +kernel
theorem dL_law_179 : decode cL_law 179 = .ok (.iload_n 3, 1) := by decide +kernel
theorem dL_law_180 : decode cL_law 180 = .ok (.iconst 1, 1) := by decide +kernel
theorem dL_law_181 : decode cL_law 181 = .ok (.iadd, 1) := by decide +kernel
theorem dL_law_182 : decode cL_law 182 = .ok (.iaload, 1) := by decide +kernel
theorem dL_law_183 : decode cL_law 183 = .ok (.invokevirtual 17, 3) := by decide +kernel
theorem dL_law_186 : decode cL_law 186 = .ok (.if_icmp .eq 784, 3) := by decide +kernel
theorem dL_law_189 : decode cL_law 189 = .ok (.iconst 0, 1) := by decide +kernel
theorem dL_law_190 : decode cL_law 190 = .ok (.ireturn, 1) := by decide +kernel
theorem dL_law_191 : decode cL_law 191 = .ok (.aload_n 1, 1) := by decide +kernel
theorem dL_law_192 : decode cL_law 192 = .ok (.aload_n 0, 1) := by decide +kernel
theorem dL_law_193 : decode cL_law 193 = .ok (.iload_n 3, 1) := by decide +kernel
theorem dL_law_194 : decode cL_law 194 = .ok (.iconst 1, 1) := by decide +kernel
theorem dL_law_195 : decode cL_law 195 = .ok (.iadd, 1) := by decide +kernel
theorem dL_law_196 : decode cL_law 196 = .ok (.iaload, 1) := by decide +kernel
theorem dL_law_197 : decode cL_law 197 = .ok (.invokevirtual 18, 3) := by decide +kernel
theorem dL_law_200 : decode cL_law 200 = .ok (.aload_n 2, 1) := by decide +kernel
theorem dL_law_201 : decode cL_law 201 = .ok (.aload_n 0, 1) := by decide +kernel
theorem dL_law_202 : decode cL_law 202 = .ok (.iload_n 3, 1) := by decide +kernel
theorem dL_law_203 : decode cL_law 203 = .ok (.iconst 1, 1) := by decide +kernel
theorem dL_law_204 : decode cL_law 204 = .ok (.iadd, 1) := by decide +kernel
theorem dL_law_205 : decode cL_law 205 = .ok (.iaload, 1) := by decide +kernel
theorem dL_law_206 : decode cL_law 206 = .ok (.invokevirtual 21, 3) := by decide +kernel
theorem dL_law_209 : decode cL_law 209 = .ok (.if_icmp .eq 761, 3) := by decide +kernel
theorem dL_law_212 : decode cL_law 212 = .ok (.iconst 0, 1) := by decide +kernel
theorem dL_law_213 : decode cL_law 213 = .ok (.ireturn, 1) := by decide +kernel
theorem dL_law_214 : decode cL_law 214 = .ok (.aload_n 1, 1) := by decide +kernel
theorem dL_law_215 : decode cL_law 215 = .ok (.aload_n 0, 1) := by decide +kernel
theorem dL_law_216 : decode cL_law 216 = .ok (.iload_n 3, 1) := by decide +kernel
theorem dL_law_217 : decode cL_law 217 = .ok (.iconst 1, 1) := by decide +kernel
theorem dL_law_218 : decode cL_law 218 = .ok (.iadd, 1) := by decide +kernel
theorem dL_law_219 : decode cL_law 219 = .ok (.iaload, 1) := by decide +kernel
theorem dL_law_220 : decode cL_law 220 = .ok (.invokevirtual 22, 3) := by decide +kernel
theorem dL_law_223 : decode cL_law 223 = .ok (.aload_n 2, 1) := by decide +kernel
theorem dL_law_224 : decode cL_law 224 = .ok (.aload_n 0, 1) := by decide +kernel
theorem dL_law_225 : decode cL_law 225 = .ok (.iload_n 3, 1) := by decide +kernel
theorem dL_law_226 : decode cL_law 226 = .ok (.iconst 1, 1) := by decide +kernel
theorem dL_law_227 : decode cL_law 227 = .ok (.iadd, 1) := by decide +kernel
theorem dL_law_228 : decode cL_law 228 = .ok (.iaload, 1) := by decide +kernel
theorem dL_law_229 : decode cL_law 229 = .ok (.invokevirtual 25, 3) := by decide +kernel
theorem dL_law_232 : decode cL_law 232 = .ok (.if_icmp .eq 738, 3) := by decide +kernel
theorem dL_law_235 : decode cL_law 235 = .ok (.iconst 0, 1) := by decide +kernel
theorem dL_law_236 : decode cL_law 236 = .ok (.ireturn, 1) := by decide +kernel
theorem dL_law_237 : decode cL_law 237 = .ok (.aload_n 1, 1) := by decide +kernel
theorem dL_law_238 : decode cL_law 238 = .ok (.invokevirtual 26, 3) := by decide +kernel
theorem dL_law_241 : decode cL_law 241 = .ok (.aload_n 2, 1) := by decide +kernel
theorem dL_law_242 : decode cL_law 242 = .ok (.invokevirtual 30, 3) := by decide +kernel
theorem dL_law_245 : decode cL_law 245 = .ok (.if_icmp .eq 725, 3) := by decide +kernel
theorem dL_law_248 : decode cL_law 248 = .ok (.iconst 0, 1) := by decide +kernel
theorem dL_law_249 : decode cL_law 249 = .ok (.ireturn, 1) := by decide +kernel
theorem dL_law_250 : decode cL_law 250 = .ok (.aload_n 1, 1) := by decide +kernel
theorem dL_law_251 : decode cL_law 251 = .ok (.aload_n 0, 1) := by decide +kernel
theorem dL_law_252 : decode cL_law 252 = .ok (.iload_n 3, 1) := by decide +kernel
theorem dL_law_253 : decode cL_law 253 = .ok (.iconst 1, 1) := by decide +kernel
theorem dL_law_254 : decode cL_law 254 = .ok (.iadd, 1) := by decide +kernel
theorem dL_law_255 : decode cL_law 255 = .ok (.iaload, 1) := by decide +kernel
theorem dL_law_256 : decode cL_law 256 = .ok (.invokevirtual 31, 3) := by decide +kernel
theorem dL_law_259 : decode cL_law 259 = .ok (.aload_n 2, 1) := by decide +kernel
theorem dL_law_260 : decode cL_law 260 = .ok (.aload_n 0, 1) := by decide +kernel
theorem dL_law_261 : decode cL_law 261 = .ok (.iload_n 3, 1) := by decide +kernel
theorem dL_law_262 : decode cL_law 262 = .ok (.iconst 1, 1) := by decide +kernel
theorem dL_law_263 : decode cL_law 263 = .ok (.iadd, 1) := by decide +kernel
theorem dL_law_264 : decode cL_law 264 = .ok (.iaload, 1) := by decide +kernel
theorem dL_law_265 : decode cL_law 265 = .ok (.invokevirtual 34, 3) := by decide +kernel
theorem dL_law_268 : decode cL_law 268 = .ok (.if_icmp .eq 702, 3) := by decide +kernel
theorem dL_law_271 : decode cL_law 271 = .ok (.iconst 0, 1) := by decide +kernel
theorem dL_law_272 : decode cL_law 272 = .ok (.ireturn, 1) := by decide +kernel
theorem dL_law_273 : decode cL_law 273 = .ok (.aload_n 1, 1) := by decide +kernel
theorem dL_law_274 : decode cL_law 274 = .ok (.invokevirtual 35, 3) := by decide +kernel
theorem dL_law_277 : decode cL_law 277 = .ok (.aload_n 2, 1) := by decide +kernel
theorem dL_law_278 : decode cL_law 278 = .ok (.invokevirtual 38, 3) := by decide +kernel
theorem dL_law_281 : decode cL_law 281 = .ok (.if_icmp .eq 689, 3) := by decide +kernel
theorem dL_law_284 : decode cL_law 284 = .ok (.iconst 0, 1) := by decide +kernel
theorem dL_law_285 : decode cL_law 285 = .ok (.ireturn, 1) := by decide +kernel
theorem dL_law_286 : decode cL_law 286 = .ok (.aload_n 1, 1) := by decide +kernel
