theorem dX9_likely_38 : decode cX9_likely 38 = .ok (.lshl, 1) := by decide +kernel
theorem dX9_likely_39 : decode cX9_likely 39 = .ok (.iload_n 2, 1) := by decide +kernel
theorem dX9_likely_40 : decode cX9_likely 40 = .ok (.invokestatic 172, 3) := by decide +kernel
theorem dX9_likely_43 : decode cX9_likely 43 = .ok (.lreturn, 1) := by decide +kernel
theorem dX9_noneOf_0 : decode cX9_noneOf 0 = .ok (.lconst 1, 1) := by decide +kernel
theorem dX9_noneOf_1 : decode cX9_noneOf 1 = .ok (.lstore_n 2, 1) := by decide +kernel
theorem dX9_noneOf_2 : decode cX9_noneOf 2 = .ok (.iconst 0, 1) := by decide +kernel
theorem dX9_noneOf_3 : decode cX9_noneOf 3 = .ok (.istore 4, 2) := by decide +kernel
theorem dX9_noneOf_5 : decode cX9_noneOf 5 = .ok (.iload 4, 2) := by decide +kernel
theorem dX9_noneOf_7 : decode cX9_noneOf 7 = .ok (.iload_n 1, 1) := by decide +kernel
theorem dX9_noneOf_8 : decode cX9_noneOf 8 = .ok (.if_icmp .ge 27, 3) := by decide +kernel
theorem dX9_noneOf_11 : decode cX9_noneOf 11 = .ok (.lload_n 2, 1) := by decide +kernel
theorem dX9_noneOf_12 : decode cX9_noneOf 12 = .ok (.lconst 1, 1) := by decide +kernel
theorem dX9_noneOf_13 : decode cX9_noneOf 13 = .ok (.iconst 2, 1) := by decide +kernel
theorem dX9_noneOf_14 : decode cX9_noneOf 14 = .ok (.aload_n 0, 1) := by decide +kernel
theorem dX9_noneOf_15 : decode cX9_noneOf 15 = .ok (.getfield 70, 3) := by decide +kernel
theorem dX9_noneOf_18 : decode cX9_noneOf 18 = .ok (.imul, 1) := by decide +kernel
theorem dX9_noneOf_19 : decode cX9_noneOf 19 = .ok (.lshl, 1) := by decide +kernel
theorem dX9_noneOf_20 : decode cX9_noneOf 20 = .ok (.aload_n 0, 1) := by decide +kernel
theorem dX9_noneOf_21 : decode cX9_noneOf 21 = .ok (.iload 4, 2) := by decide +kernel
theorem dX9_noneOf_23 : decode cX9_noneOf 23 = .ok (.invokevirtual 168, 3) := by decide +kernel
theorem dX9_noneOf_26 : decode cX9_noneOf 26 = .ok (.lsub, 1) := by decide +kernel
theorem dX9_noneOf_27 : decode cX9_noneOf 27 = .ok (.lmul, 1) := by decide +kernel
theorem dX9_noneOf_28 : decode cX9_noneOf 28 = .ok (.lstore_n 2, 1) := by decide +kernel
theorem dX9_noneOf_29 : decode cX9_noneOf 29 = .ok (.iinc 4 1, 3) := by decide +kernel
theorem dX9_noneOf_32 : decode cX9_noneOf 32 = .ok (.goto (-27), 3) := by decide +kernel
theorem dX9_noneOf_35 : decode cX9_noneOf 35 = .ok (.lload_n 2, 1) := by decide +kernel
theorem dX9_noneOf_36 : decode cX9_noneOf 36 = .ok (.lreturn, 1) := by decide +kernel
theorem dX9_one_0 : decode cX9_one 0 = .ok (.iload_n 1, 1) := by decide +kernel
theorem dX9_one_1 : decode cX9_one 1 = .ok (.i2l, 1) := by decide +kernel
theorem dX9_one_2 : decode cX9_one 2 = .ok (.lconst 1, 1) := by decide +kernel
theorem dX9_one_3 : decode cX9_one 3 = .ok (.ldc2_w 176, 3) := by decide +kernel
theorem dX9_one_6 : decode cX9_one 6 = .ok (.invokestatic 82, 3) := by decide +kernel
theorem dX9_one_9 : decode cX9_one 9 = .ok (.ifCond .eq 13, 3) := by decide +kernel
theorem dX9_one_12 : decode cX9_one 12 = .ok (.iload_n 2, 1) := by decide +kernel
theorem dX9_one_13 : decode cX9_one 13 = .ok (.i2l, 1) := by decide +kernel
theorem dX9_one_14 : decode cX9_one 14 = .ok (.lconst 0, 1) := by decide +kernel
theorem dX9_one_15 : decode cX9_one 15 = .ok (.lconst 1, 1) := by decide +kernel
theorem dX9_one_16 : decode cX9_one 16 = .ok (.invokestatic 82, 3) := by decide +kernel
theorem dX9_one_19 : decode cX9_one 19 = .ok (.ifCond .ne 7, 3) := by decide +kernel
theorem dX9_one_22 : decode cX9_one 22 = .ok (.ldc2_w 166, 3) := by decide +kernel
theorem dX9_one_25 : decode cX9_one 25 = .ok (.lreturn, 1) := by decide +kernel
theorem dX9_one_26 : decode cX9_one 26 = .ok (.lconst 1, 1) := by decide +kernel
theorem dX9_one_27 : decode cX9_one 27 = .ok (.iconst 2, 1) := by decide +kernel
theorem dX9_one_28 : decode cX9_one 28 = .ok (.aload_n 0, 1) := by decide +kernel
theorem dX9_one_29 : decode cX9_one 29 = .ok (.getfield 70, 3) := by decide +kernel
theorem dX9_one_32 : decode cX9_one 32 = .ok (.imul, 1) := by decide +kernel
theorem dX9_one_33 : decode cX9_one 33 = .ok (.iload_n 1, 1) := by decide +kernel
theorem dX9_one_34 : decode cX9_one 34 = .ok (.imul, 1) := by decide +kernel
theorem dX9_one_35 : decode cX9_one 35 = .ok (.lshl, 1) := by decide +kernel
theorem dX9_one_36 : decode cX9_one 36 = .ok (.lstore_n 3, 1) := by decide +kernel
theorem dX9_one_37 : decode cX9_one 37 = .ok (.lload_n 3, 1) := by decide +kernel
theorem dX9_one_38 : decode cX9_one 38 = .ok (.aload_n 0, 1) := by decide +kernel
theorem dX9_one_39 : decode cX9_one 39 = .ok (.iload_n 1, 1) := by decide +kernel
theorem dX9_one_40 : decode cX9_one 40 = .ok (.invokevirtual 178, 3) := by decide +kernel
theorem dX9_one_43 : decode cX9_one 43 = .ok (.lsub, 1) := by decide +kernel
theorem dX9_one_44 : decode cX9_one 44 = .ok (.lload_n 3, 1) := by decide +kernel
theorem dX9_one_45 : decode cX9_one 45 = .ok (.iload_n 2, 1) := by decide +kernel
theorem dX9_one_46 : decode cX9_one 46 = .ok (.invokestatic 172, 3) := by decide +kernel
theorem dX9_one_49 : decode cX9_one 49 = .ok (.lreturn, 1) := by decide +kernel
theorem dX9_many_0 : decode cX9_many 0 = .ok (.iload_n 2, 1) := by decide +kernel
theorem dX9_many_1 : decode cX9_many 1 = .ok (.i2l, 1) := by decide +kernel
theorem dX9_many_2 : decode cX9_many 2 = .ok (.lconst 1, 1) := by decide +kernel
theorem dX9_many_3 : decode cX9_many 3 = .ok (.ldc2_w 181, 3) := by decide +kernel
theorem dX9_many_6 : decode cX9_many 6 = .ok (.invokestatic 82, 3) := by decide +kernel
theorem dX9_many_9 : decode cX9_many 9 = .ok (.ifCond .eq 14, 3) := by decide +kernel
theorem dX9_many_12 : decode cX9_many 12 = .ok (.iload_n 1, 1) := by decide +kernel
theorem dX9_many_13 : decode cX9_many 13 = .ok (.i2l, 1) := by decide +kernel
theorem dX9_many_14 : decode cX9_many 14 = .ok (.lconst 0, 1) := by decide +kernel
theorem dX9_many_15 : decode cX9_many 15 = .ok (.iload_n 2, 1) := by decide +kernel
theorem dX9_many_16 : decode cX9_many 16 = .ok (.i2l, 1) := by decide +kernel
theorem dX9_many_17 : decode cX9_many 17 = .ok (.invokestatic 82, 3) := by decide +kernel
theorem dX9_many_20 : decode cX9_many 20 = .ok (.ifCond .ne 6, 3) := by decide +kernel
theorem dX9_many_23 : decode cX9_many 23 = .ok (.bipush (-2), 2) := by decide +kernel
theorem dX9_many_25 : decode cX9_many 25 = .ok (.ireturn, 1) := by decide +kernel
theorem dX9_many_26 : decode cX9_many 26 = .ok (.iconst 1, 1) := by decide +kernel
theorem dX9_many_27 : decode cX9_many 27 = .ok (.istore_n 3, 1) := by decide +kernel
theorem dX9_many_28 : decode cX9_many 28 = .ok (.iload_n 3, 1) := by decide +kernel
theorem dX9_many_29 : decode cX9_many 29 = .ok (.iconst 4, 1) := by decide +kernel
theorem dX9_many_30 : decode cX9_many 30 = .ok (.if_icmp .ge 43, 3) := by decide +kernel
theorem dX9_many_33 : decode cX9_many 33 = .ok (.lconst 1, 1) := by decide +kernel
theorem dX9_many_34 : decode cX9_many 34 = .ok (.iconst 2, 1) := by decide +kernel
theorem dX9_many_35 : decode cX9_many 35 = .ok (.aload_n 0, 1) := by decide +kernel
theorem dX9_many_36 : decode cX9_many 36 = .ok (.getfield 70, 3) := by decide +kernel
theorem dX9_many_39 : decode cX9_many 39 = .ok (.imul, 1) := by decide +kernel
theorem dX9_many_40 : decode cX9_many 40 = .ok (.iload_n 3, 1) := by decide +kernel
theorem dX9_many_41 : decode cX9_many 41 = .ok (.imul, 1) := by decide +kernel
theorem dX9_many_42 : decode cX9_many 42 = .ok (.lshl, 1) := by decide +kernel
theorem dX9_many_43 : decode cX9_many 43 = .ok (.lstore 4, 2) := by decide +kernel
theorem dX9_many_45 : decode cX9_many 45 = .ok (.lload 4, 2) := by decide +kernel
theorem dX9_many_47 : decode cX9_many 47 = .ok (.aload_n 0, 1) := by decide +kernel
theorem dX9_many_48 : decode cX9_many 48 = .ok (.iload_n 3, 1) := by decide +kernel
theorem dX9_many_49 : decode cX9_many 49 = .ok (.invokevirtual 178, 3) := by decide +kernel
theorem dX9_many_52 : decode cX9_many 52 = .ok (.lsub, 1) := by decide +kernel
theorem dX9_many_53 : decode cX9_many 53 = .ok (.iload_n 2, 1) := by decide +kernel
theorem dX9_many_54 : decode cX9_many 54 = .ok (.i2l, 1) := by decide +kernel
theorem dX9_many_55 : decode cX9_many 55 = .ok (.lmul, 1) := by decide +kernel
theorem dX9_many_56 : decode cX9_many 56 = .ok (.iload_n 1, 1) := by decide +kernel
theorem dX9_many_57 : decode cX9_many 57 = .ok (.i2l, 1) := by decide +kernel
theorem dX9_many_58 : decode cX9_many 58 = .ok (.lload 4, 2) := by decide +kernel
theorem dX9_many_60 : decode cX9_many 60 = .ok (.lmul, 1) := by decide +kernel
theorem dX9_many_61 : decode cX9_many 61 = .ok (.lcmp, 1) := by decide +kernel
theorem dX9_many_62 : decode cX9_many 62 = .ok (.ifCond .lt 5, 3) := by decide +kernel
theorem dX9_many_65 : decode cX9_many 65 = .ok (.iload_n 3, 1) := by decide +kernel
theorem dX9_many_66 : decode cX9_many 66 = .ok (.ireturn, 1) := by decide +kernel
theorem dX9_many_67 : decode cX9_many 67 = .ok (.iinc 3 1, 3) := by decide +kernel
theorem dX9_many_70 : decode cX9_many 70 = .ok (.goto (-42), 3) := by decide +kernel
theorem dX9_many_73 : decode cX9_many 73 = .ok (.bipush (-6), 2) := by decide +kernel
theorem dX9_many_75 : decode cX9_many 75 = .ok (.ireturn, 1) := by decide +kernel
theorem dX9_shoot_0 : decode cX9_shoot 0 = .ok (.iload_n 1, 1) := by decide +kernel
theorem dX9_shoot_1 : decode cX9_shoot 1 = .ok (.i2l, 1) := by decide +kernel
theorem dX9_shoot_2 : decode cX9_shoot 2 = .ok (.lconst 0, 1) := by decide +kernel
theorem dX9_shoot_3 : decode cX9_shoot 3 = .ok (.ldc2_w 183, 3) := by decide +kernel
theorem dX9_shoot_6 : decode cX9_shoot 6 = .ok (.invokestatic 82, 3) := by decide +kernel
theorem dX9_shoot_9 : decode cX9_shoot 9 = .ok (.ifCond .eq 25, 3) := by decide +kernel
theorem dX9_shoot_12 : decode cX9_shoot 12 = .ok (.iload_n 2, 1) := by decide +kernel
theorem dX9_shoot_13 : decode cX9_shoot 13 = .ok (.i2l, 1) := by decide +kernel
theorem dX9_shoot_14 : decode cX9_shoot 14 = .ok (.lconst 1, 1) := by decide +kernel
theorem dX9_shoot_15 : decode cX9_shoot 15 = .ok (.ldc2_w 185, 3) := by decide +kernel
theorem dX9_shoot_18 : decode cX9_shoot 18 = .ok (.invokestatic 82, 3) := by decide +kernel
theorem dX9_shoot_21 : decode cX9_shoot 21 = .ok (.ifCond .eq 13, 3) := by decide +kernel
theorem dX9_shoot_24 : decode cX9_shoot 24 = .ok (.iload_n 3, 1) := by decide +kernel
theorem dX9_shoot_25 : decode cX9_shoot 25 = .ok (.i2l, 1) := by decide +kernel
theorem dX9_shoot_26 : decode cX9_shoot 26 = .ok (.lconst 0, 1) := by decide +kernel
theorem dX9_shoot_27 : decode cX9_shoot 27 = .ok (.lconst 1, 1) := by decide +kernel
theorem dX9_shoot_28 : decode cX9_shoot 28 = .ok (.invokestatic 82, 3) := by decide +kernel
theorem dX9_shoot_31 : decode cX9_shoot 31 = .ok (.ifCond .ne 6, 3) := by decide +kernel
theorem dX9_shoot_34 : decode cX9_shoot 34 = .ok (.bipush (-2), 2) := by decide +kernel
theorem dX9_shoot_36 : decode cX9_shoot 36 = .ok (.ireturn, 1) := by decide +kernel
theorem dX9_shoot_37 : decode cX9_shoot 37 = .ok (.iload_n 1, 1) := by decide +kernel
theorem dX9_shoot_38 : decode cX9_shoot 38 = .ok (.istore 4, 2) := by decide +kernel
theorem dX9_shoot_40 : decode cX9_shoot 40 = .ok (.bipush (-6), 2) := by decide +kernel
theorem dX9_shoot_42 : decode cX9_shoot 42 = .ok (.istore 5, 2) := by decide +kernel
theorem dX9_shoot_44 : decode cX9_shoot 44 = .ok (.iconst 0, 1) := by decide +kernel
theorem dX9_shoot_45 : decode cX9_shoot 45 = .ok (.istore 6, 2) := by decide +kernel
theorem dX9_shoot_47 : decode cX9_shoot 47 = .ok (.iconst 0, 1) := by decide +kernel
theorem dX9_shoot_48 : decode cX9_shoot 48 = .ok (.istore 7, 2) := by decide +kernel
theorem dX9_shoot_50 : decode cX9_shoot 50 = .ok (.iload 7, 2) := by decide +kernel
theorem dX9_shoot_52 : decode cX9_shoot 52 = .ok (.iload_n 2, 1) := by decide +kernel
theorem dX9_shoot_53 : decode cX9_shoot 53 = .ok (.if_icmp .ge 109, 3) := by decide +kernel
theorem dX9_shoot_56 : decode cX9_shoot 56 = .ok (.iconst 1, 1) := by decide +kernel
theorem dX9_shoot_57 : decode cX9_shoot 57 = .ok (.istore 8, 2) := by decide +kernel
theorem dX9_shoot_59 : decode cX9_shoot 59 = .ok (.iconst 0, 1) := by decide +kernel
theorem dX9_shoot_60 : decode cX9_shoot 60 = .ok (.istore 9, 2) := by decide +kernel
theorem dX9_shoot_62 : decode cX9_shoot 62 = .ok (.iload 9, 2) := by decide +kernel
theorem dX9_shoot_64 : decode cX9_shoot 64 = .ok (.aload_n 0, 1) := by decide +kernel
theorem dX9_shoot_65 : decode cX9_shoot 65 = .ok (.getfield 70, 3) := by decide +kernel
theorem dX9_shoot_68 : decode cX9_shoot 68 = .ok (.if_icmp .ge 54, 3) := by decide +kernel
theorem dX9_shoot_71 : decode cX9_shoot 71 = .ok (.ldc2_w 187, 3) := by decide +kernel
theorem dX9_shoot_74 : decode cX9_shoot 74 = .ok (.iload 4, 2) := by decide +kernel
theorem dX9_shoot_76 : decode cX9_shoot 76 = .ok (.i2l, 1) := by decide +kernel
theorem dX9_shoot_77 : decode cX9_shoot 77 = .ok (.lmul, 1) := by decide +kernel
theorem dX9_shoot_78 : decode cX9_shoot 78 = .ok (.ldc2_w 189, 3) := by decide +kernel
theorem dX9_shoot_81 : decode cX9_shoot 81 = .ok (.ladd, 1) := by decide +kernel
theorem dX9_shoot_82 : decode cX9_shoot 82 = .ok (.ldc2_w 191, 3) := by decide +kernel
theorem dX9_shoot_85 : decode cX9_shoot 85 = .ok (.lrem, 1) := by decide +kernel
theorem dX9_shoot_86 : decode cX9_shoot 86 = .ok (.l2i, 1) := by decide +kernel
theorem dX9_shoot_87 : decode cX9_shoot 87 = .ok (.istore 4, 2) := by decide +kernel
theorem dX9_shoot_89 : decode cX9_shoot 89 = .ok (.iload 8, 2) := by decide +kernel
theorem dX9_shoot_91 : decode cX9_shoot 91 = .ok (.ifCond .eq 22, 3) := by decide +kernel
theorem dX9_shoot_94 : decode cX9_shoot 94 = .ok (.iload 4, 2) := by decide +kernel
theorem dX9_shoot_96 : decode cX9_shoot 96 = .ok (.iconst 4, 1) := by decide +kernel
theorem dX9_shoot_97 : decode cX9_shoot 97 = .ok (.irem, 1) := by decide +kernel
theorem dX9_shoot_98 : decode cX9_shoot 98 = .ok (.aload_n 0, 1) := by decide +kernel
theorem dX9_shoot_99 : decode cX9_shoot 99 = .ok (.iload 9, 2) := by decide +kernel
theorem dX9_shoot_101 : decode cX9_shoot 101 = .ok (.iload 7, 2) := by decide +kernel
theorem dX9_shoot_103 : decode cX9_shoot 103 = .ok (.invokevirtual 163, 3) := by decide +kernel
theorem dX9_shoot_106 : decode cX9_shoot 106 = .ok (.if_icmp .lt 7, 3) := by decide +kernel
theorem dX9_shoot_109 : decode cX9_shoot 109 = .ok (.iconst 1, 1) := by decide +kernel
theorem dX9_shoot_110 : decode cX9_shoot 110 = .ok (.goto 4, 3) := by decide +kernel
theorem dX9_shoot_113 : decode cX9_shoot 113 = .ok (.iconst 0, 1) := by decide +kernel
theorem dX9_shoot_114 : decode cX9_shoot 114 = .ok (.istore 8, 2) := by decide +kernel
theorem dX9_shoot_116 : decode cX9_shoot 116 = .ok (.iinc 9 1, 3) := by decide +kernel
theorem dX9_shoot_119 : decode cX9_shoot 119 = .ok (.goto (-57), 3) := by decide +kernel
theorem dX9_shoot_122 : decode cX9_shoot 122 = .ok (.iload 8, 2) := by decide +kernel
theorem dX9_shoot_124 : decode cX9_shoot 124 = .ok (.ifCond .eq 13, 3) := by decide +kernel
theorem dX9_shoot_127 : decode cX9_shoot 127 = .ok (.iload 5, 2) := by decide +kernel
theorem dX9_shoot_129 : decode cX9_shoot 129 = .ok (.ifCond .ge 8, 3) := by decide +kernel
theorem dX9_shoot_132 : decode cX9_shoot 132 = .ok (.iload 7, 2) := by decide +kernel
theorem dX9_shoot_134 : decode cX9_shoot 134 = .ok (.goto 5, 3) := by decide +kernel
theorem dX9_shoot_137 : decode cX9_shoot 137 = .ok (.iload 5, 2) := by decide +kernel
theorem dX9_shoot_139 : decode cX9_shoot 139 = .ok (.istore 5, 2) := by decide +kernel
theorem dX9_shoot_141 : decode cX9_shoot 141 = .ok (.iload 6, 2) := by decide +kernel
theorem dX9_shoot_143 : decode cX9_shoot 143 = .ok (.iload 8, 2) := by decide +kernel
theorem dX9_shoot_145 : decode cX9_shoot 145 = .ok (.ifCond .eq 7, 3) := by decide +kernel
theorem dX9_shoot_148 : decode cX9_shoot 148 = .ok (.iconst 1, 1) := by decide +kernel
theorem dX9_shoot_149 : decode cX9_shoot 149 = .ok (.goto 4, 3) := by decide +kernel
theorem dX9_shoot_152 : decode cX9_shoot 152 = .ok (.iconst 0, 1) := by decide +kernel
theorem dX9_shoot_153 : decode cX9_shoot 153 = .ok (.iadd, 1) := by decide +kernel
theorem dX9_shoot_154 : decode cX9_shoot 154 = .ok (.istore 6, 2) := by decide +kernel
theorem dX9_shoot_156 : decode cX9_shoot 156 = .ok (.iinc 7 1, 3) := by decide +kernel
theorem dX9_shoot_159 : decode cX9_shoot 159 = .ok (.goto (-109), 3) := by decide +kernel
theorem dX9_shoot_162 : decode cX9_shoot 162 = .ok (.iload_n 3, 1) := by decide +kernel
theorem dX9_shoot_163 : decode cX9_shoot 163 = .ok (.ifCond .ne 8, 3) := by decide +kernel
theorem dX9_shoot_166 : decode cX9_shoot 166 = .ok (.iload 5, 2) := by decide +kernel
theorem dX9_shoot_168 : decode cX9_shoot 168 = .ok (.goto 5, 3) := by decide +kernel
theorem dX9_shoot_171 : decode cX9_shoot 171 = .ok (.iload 6, 2) := by decide +kernel
theorem dX9_shoot_173 : decode cX9_shoot 173 = .ok (.ireturn, 1) := by decide +kernel
theorem dX9_stair_0 : decode cX9_stair 0 = .ok (.iload_n 1, 1) := by decide +kernel
theorem dX9_stair_1 : decode cX9_stair 1 = .ok (.i2l, 1) := by decide +kernel
theorem dX9_stair_2 : decode cX9_stair 2 = .ok (.lconst 1, 1) := by decide +kernel
theorem dX9_stair_3 : decode cX9_stair 3 = .ok (.ldc2_w 176, 3) := by decide +kernel
theorem dX9_stair_6 : decode cX9_stair 6 = .ok (.invokestatic 82, 3) := by decide +kernel
theorem dX9_stair_9 : decode cX9_stair 9 = .ok (.ifCond .eq 23, 3) := by decide +kernel
theorem dX9_stair_12 : decode cX9_stair 12 = .ok (.iload_n 2, 1) := by decide +kernel
theorem dX9_stair_13 : decode cX9_stair 13 = .ok (.i2l, 1) := by decide +kernel
theorem dX9_stair_14 : decode cX9_stair 14 = .ok (.lconst 1, 1) := by decide +kernel
theorem dX9_stair_15 : decode cX9_stair 15 = .ok (.ldc2_w 161, 3) := by decide +kernel
theorem dX9_stair_18 : decode cX9_stair 18 = .ok (.invokestatic 82, 3) := by decide +kernel
theorem dX9_stair_21 : decode cX9_stair 21 = .ok (.ifCond .eq 11, 3) := by decide +kernel
theorem dX9_stair_24 : decode cX9_stair 24 = .ok (.iload_n 1, 1) := by decide +kernel
theorem dX9_stair_25 : decode cX9_stair 25 = .ok (.iload_n 2, 1) := by decide +kernel
theorem dX9_stair_26 : decode cX9_stair 26 = .ok (.imul, 1) := by decide +kernel
theorem dX9_stair_27 : decode cX9_stair 27 = .ok (.bipush 8, 2) := by decide +kernel
theorem dX9_stair_29 : decode cX9_stair 29 = .ok (.if_icmp .le 6, 3) := by decide +kernel
theorem dX9_stair_32 : decode cX9_stair 32 = .ok (.bipush (-2), 2) := by decide +kernel
theorem dX9_stair_34 : decode cX9_stair 34 = .ok (.ireturn, 1) := by decide +kernel
theorem dX9_stair_35 : decode cX9_stair 35 = .ok (.aload_n 0, 1) := by decide +kernel
theorem dX9_stair_36 : decode cX9_stair 36 = .ok (.iload_n 1, 1) := by decide +kernel
theorem dX9_stair_37 : decode cX9_stair 37 = .ok (.putfield 54, 3) := by decide +kernel
theorem dX9_stair_40 : decode cX9_stair 40 = .ok (.aload_n 0, 1) := by decide +kernel
theorem dX9_stair_41 : decode cX9_stair 41 = .ok (.iload_n 2, 1) := by decide +kernel
theorem dX9_stair_42 : decode cX9_stair 42 = .ok (.putfield 57, 3) := by decide +kernel
theorem dX9_stair_45 : decode cX9_stair 45 = .ok (.iload_n 1, 1) := by decide +kernel
theorem dX9_stair_46 : decode cX9_stair 46 = .ok (.iload_n 2, 1) := by decide +kernel
theorem dX9_stair_47 : decode cX9_stair 47 = .ok (.imul, 1) := by decide +kernel
theorem dX9_stair_48 : decode cX9_stair 48 = .ok (.ireturn, 1) := by decide +kernel
theorem dX9_tall_0 : decode cX9_tall 0 = .ok (.iload_n 1, 1) := by decide +kernel
theorem dX9_tall_1 : decode cX9_tall 1 = .ok (.iconst (-1), 1) := by decide +kernel
theorem dX9_tall_2 : decode cX9_tall 2 = .ok (.if_icmp .eq 13, 3) := by decide +kernel
theorem dX9_tall_5 : decode cX9_tall 5 = .ok (.aload_n 0, 1) := by decide +kernel
theorem dX9_tall_6 : decode cX9_tall 6 = .ok (.iload_n 1, 1) := by decide +kernel
theorem dX9_tall_7 : decode cX9_tall 7 = .ok (.invokevirtual 88, 3) := by decide +kernel
theorem dX9_tall_10 : decode cX9_tall 10 = .ok (.ifCond .ne 5, 3) := by decide +kernel
theorem dX9_tall_13 : decode cX9_tall 13 = .ok (.iconst (-1), 1) := by decide +kernel
theorem dX9_tall_14 : decode cX9_tall 14 = .ok (.ireturn, 1) := by decide +kernel
theorem dX9_tall_15 : decode cX9_tall 15 = .ok (.iload_n 2, 1) := by decide +kernel
theorem dX9_tall_16 : decode cX9_tall 16 = .ok (.i2l, 1) := by decide +kernel
theorem dX9_tall_17 : decode cX9_tall 17 = .ok (.lconst 0, 1) := by decide +kernel
theorem dX9_tall_18 : decode cX9_tall 18 = .ok (.iload_n 1, 1) := by decide +kernel
theorem dX9_tall_19 : decode cX9_tall 19 = .ok (.iconst (-1), 1) := by decide +kernel
theorem dX9_tall_20 : decode cX9_tall 20 = .ok (.if_icmp .ne 9, 3) := by decide +kernel
theorem dX9_tall_23 : decode cX9_tall 23 = .ok (.ldc2_w 193, 3) := by decide +kernel
theorem dX9_tall_26 : decode cX9_tall 26 = .ok (.goto 6, 3) := by decide +kernel
theorem dX9_tall_29 : decode cX9_tall 29 = .ok (.ldc2_w 195, 3) := by decide +kernel
theorem dX9_tall_32 : decode cX9_tall 32 = .ok (.invokestatic 82, 3) := by decide +kernel
theorem dX9_tall_35 : decode cX9_tall 35 = .ok (.ifCond .ne 6, 3) := by decide +kernel
theorem dX9_tall_38 : decode cX9_tall 38 = .ok (.bipush (-2), 2) := by decide +kernel
theorem dX9_tall_40 : decode cX9_tall 40 = .ok (.ireturn, 1) := by decide +kernel
theorem dX9_tall_41 : decode cX9_tall 41 = .ok (.iload_n 1, 1) := by decide +kernel
theorem dX9_tall_42 : decode cX9_tall 42 = .ok (.iconst (-1), 1) := by decide +kernel
theorem dX9_tall_43 : decode cX9_tall 43 = .ok (.if_icmp .ne 10, 3) := by decide +kernel
theorem dX9_tall_46 : decode cX9_tall 46 = .ok (.aload_n 0, 1) := by decide +kernel
theorem dX9_tall_47 : decode cX9_tall 47 = .ok (.getfield 60, 3) := by decide +kernel
theorem dX9_tall_50 : decode cX9_tall 50 = .ok (.goto 9, 3) := by decide +kernel
theorem dX9_tall_53 : decode cX9_tall 53 = .ok (.aload_n 0, 1) := by decide +kernel
theorem dX9_tall_54 : decode cX9_tall 54 = .ok (.getfield 25, 3) := by decide +kernel
theorem dX9_tall_57 : decode cX9_tall 57 = .ok (.iload_n 1, 1) := by decide +kernel
theorem dX9_tall_58 : decode cX9_tall 58 = .ok (.iaload, 1) := by decide +kernel
theorem dX9_tall_59 : decode cX9_tall 59 = .ok (.istore_n 3, 1) := by decide +kernel
theorem dX9_tall_60 : decode cX9_tall 60 = .ok (.iload_n 1, 1) := by decide +kernel
theorem dX9_tall_61 : decode cX9_tall 61 = .ok (.iconst (-1), 1) := by decide +kernel
theorem dX9_tall_62 : decode cX9_tall 62 = .ok (.if_icmp .ne 11, 3) := by decide +kernel
theorem dX9_tall_65 : decode cX9_tall 65 = .ok (.aload_n 0, 1) := by decide +kernel
theorem dX9_tall_66 : decode cX9_tall 66 = .ok (.iload_n 2, 1) := by decide +kernel
theorem dX9_tall_67 : decode cX9_tall 67 = .ok (.putfield 60, 3) := by decide +kernel
theorem dX9_tall_70 : decode cX9_tall 70 = .ok (.goto 10, 3) := by decide +kernel
theorem dX9_tall_73 : decode cX9_tall 73 = .ok (.aload_n 0, 1) := by decide +kernel
theorem dX9_tall_74 : decode cX9_tall 74 = .ok (.getfield 25, 3) := by decide +kernel
theorem dX9_tall_77 : decode cX9_tall 77 = .ok (.iload_n 1, 1) := by decide +kernel
theorem dX9_tall_78 : decode cX9_tall 78 = .ok (.iload_n 2, 1) := by decide +kernel
theorem dX9_tall_79 : decode cX9_tall 79 = .ok (.iastore, 1) := by decide +kernel
theorem dX9_tall_80 : decode cX9_tall 80 = .ok (.iload_n 3, 1) := by decide +kernel
theorem dX9_tall_81 : decode cX9_tall 81 = .ok (.ireturn, 1) := by decide +kernel
theorem dX9_pair_0 : decode cX9_pair 0 = .ok (.aload_n 0, 1) := by decide +kernel
theorem dX9_pair_1 : decode cX9_pair 1 = .ok (.iload_n 1, 1) := by decide +kernel
theorem dX9_pair_2 : decode cX9_pair 2 = .ok (.invokevirtual 88, 3) := by decide +kernel
theorem dX9_pair_5 : decode cX9_pair 5 = .ok (.ifCond .eq 16, 3) := by decide +kernel
theorem dX9_pair_8 : decode cX9_pair 8 = .ok (.aload_n 0, 1) := by decide +kernel
theorem dX9_pair_9 : decode cX9_pair 9 = .ok (.iload_n 2, 1) := by decide +kernel
theorem dX9_pair_10 : decode cX9_pair 10 = .ok (.invokevirtual 88, 3) := by decide +kernel
theorem dX9_pair_13 : decode cX9_pair 13 = .ok (.ifCond .eq 8, 3) := by decide +kernel
theorem dX9_pair_16 : decode cX9_pair 16 = .ok (.iload_n 1, 1) := by decide +kernel
theorem dX9_pair_17 : decode cX9_pair 17 = .ok (.iload_n 2, 1) := by decide +kernel
theorem dX9_pair_18 : decode cX9_pair 18 = .ok (.if_icmp .ne 5, 3) := by decide +kernel
theorem dX9_pair_21 : decode cX9_pair 21 = .ok (.iconst (-1), 1) := by decide +kernel
theorem dX9_pair_22 : decode cX9_pair 22 = .ok (.ireturn, 1) := by decide +kernel
theorem dX9_pair_23 : decode cX9_pair 23 = .ok (.iload_n 3, 1) := by decide +kernel
theorem dX9_pair_24 : decode cX9_pair 24 = .ok (.i2l, 1) := by decide +kernel
theorem dX9_pair_25 : decode cX9_pair 25 = .ok (.lconst 0, 1) := by decide +kernel
theorem dX9_pair_26 : decode cX9_pair 26 = .ok (.ldc2_w 157, 3) := by decide +kernel
theorem dX9_pair_29 : decode cX9_pair 29 = .ok (.invokestatic 82, 3) := by decide +kernel
theorem dX9_pair_32 : decode cX9_pair 32 = .ok (.ifCond .ne 6, 3) := by decide +kernel
theorem dX9_pair_35 : decode cX9_pair 35 = .ok (.bipush (-2), 2) := by decide +kernel
theorem dX9_pair_37 : decode cX9_pair 37 = .ok (.ireturn, 1) := by decide +kernel
theorem dX9_pair_38 : decode cX9_pair 38 = .ok (.aload_n 0, 1) := by decide +kernel
theorem dX9_pair_39 : decode cX9_pair 39 = .ok (.getfield 28, 3) := by decide +kernel
theorem dX9_pair_42 : decode cX9_pair 42 = .ok (.bipush 8, 2) := by decide +kernel
theorem dX9_pair_44 : decode cX9_pair 44 = .ok (.iload_n 1, 1) := by decide +kernel
theorem dX9_pair_45 : decode cX9_pair 45 = .ok (.imul, 1) := by decide +kernel
theorem dX9_pair_46 : decode cX9_pair 46 = .ok (.iload_n 2, 1) := by decide +kernel
theorem dX9_pair_47 : decode cX9_pair 47 = .ok (.iadd, 1) := by decide +kernel
theorem dX9_pair_48 : decode cX9_pair 48 = .ok (.iaload, 1) := by decide +kernel
theorem dX9_pair_49 : decode cX9_pair 49 = .ok (.istore 4, 2) := by decide +kernel
theorem dX9_pair_51 : decode cX9_pair 51 = .ok (.aload_n 0, 1) := by decide +kernel
theorem dX9_pair_52 : decode cX9_pair 52 = .ok (.getfield 28, 3) := by decide +kernel
theorem dX9_pair_55 : decode cX9_pair 55 = .ok (.bipush 8, 2) := by decide +kernel
theorem dX9_pair_57 : decode cX9_pair 57 = .ok (.iload_n 1, 1) := by decide +kernel
theorem dX9_pair_58 : decode cX9_pair 58 = .ok (.imul, 1) := by decide +kernel
theorem dX9_pair_59 : decode cX9_pair 59 = .ok (.iload_n 2, 1) := by decide +kernel
theorem dX9_pair_60 : decode cX9_pair 60 = .ok (.iadd, 1) := by decide +kernel
theorem dX9_pair_61 : decode cX9_pair 61 = .ok (.iload_n 3, 1) := by decide +kernel
theorem dX9_pair_62 : decode cX9_pair 62 = .ok (.iastore, 1) := by decide +kernel
theorem dX9_pair_63 : decode cX9_pair 63 = .ok (.aload_n 0, 1) := by decide +kernel
theorem dX9_pair_64 : decode cX9_pair 64 = .ok (.getfield 28, 3) := by decide +kernel
theorem dX9_pair_67 : decode cX9_pair 67 = .ok (.bipush 8, 2) := by decide +kernel
theorem dX9_pair_69 : decode cX9_pair 69 = .ok (.iload_n 2, 1) := by decide +kernel
theorem dX9_pair_70 : decode cX9_pair 70 = .ok (.imul, 1) := by decide +kernel
theorem dX9_pair_71 : decode cX9_pair 71 = .ok (.iload_n 1, 1) := by decide +kernel
theorem dX9_pair_72 : decode cX9_pair 72 = .ok (.iadd, 1) := by decide +kernel
theorem dX9_pair_73 : decode cX9_pair 73 = .ok (.iload_n 3, 1) := by decide +kernel
theorem dX9_pair_74 : decode cX9_pair 74 = .ok (.iastore, 1) := by decide +kernel
theorem dX9_pair_75 : decode cX9_pair 75 = .ok (.iload 4, 2) := by decide +kernel
theorem dX9_pair_77 : decode cX9_pair 77 = .ok (.ireturn, 1) := by decide +kernel
theorem dX9_heightOf_0 : decode cX9_heightOf 0 = .ok (.aload_n 0, 1) := by decide +kernel
theorem dX9_heightOf_1 : decode cX9_heightOf 1 = .ok (.getfield 25, 3) := by decide +kernel
theorem dX9_heightOf_4 : decode cX9_heightOf 4 = .ok (.iload_n 1, 1) := by decide +kernel
theorem dX9_heightOf_5 : decode cX9_heightOf 5 = .ok (.iaload, 1) := by decide +kernel
theorem dX9_heightOf_6 : decode cX9_heightOf 6 = .ok (.aload_n 0, 1) := by decide +kernel
theorem dX9_heightOf_7 : decode cX9_heightOf 7 = .ok (.getfield 60, 3) := by decide +kernel
theorem dX9_heightOf_10 : decode cX9_heightOf 10 = .ok (.aload_n 0, 1) := by decide +kernel
theorem dX9_heightOf_11 : decode cX9_heightOf 11 = .ok (.getfield 37, 3) := by decide +kernel
theorem dX9_heightOf_14 : decode cX9_heightOf 14 = .ok (.iload_n 1, 1) := by decide +kernel
theorem dX9_heightOf_15 : decode cX9_heightOf 15 = .ok (.iaload, 1) := by decide +kernel
theorem dX9_heightOf_16 : decode cX9_heightOf 16 = .ok (.aload_n 0, 1) := by decide +kernel
theorem dX9_heightOf_17 : decode cX9_heightOf 17 = .ok (.getfield 57, 3) := by decide +kernel
theorem dX9_heightOf_20 : decode cX9_heightOf 20 = .ok (.idiv, 1) := by decide +kernel
theorem dX9_heightOf_21 : decode cX9_heightOf 21 = .ok (.imul, 1) := by decide +kernel
theorem dX9_heightOf_22 : decode cX9_heightOf 22 = .ok (.iadd, 1) := by decide +kernel
theorem dX9_heightOf_23 : decode cX9_heightOf 23 = .ok (.ireturn, 1) := by decide +kernel
theorem dX9_isHidden_0 : decode cX9_isHidden 0 = .ok (.aload_n 0, 1) := by decide +kernel
theorem dX9_isHidden_1 : decode cX9_isHidden 1 = .ok (.getfield 37, 3) := by decide +kernel
theorem dX9_isHidden_4 : decode cX9_isHidden 4 = .ok (.iload_n 1, 1) := by decide +kernel
theorem dX9_isHidden_5 : decode cX9_isHidden 5 = .ok (.iaload, 1) := by decide +kernel
theorem dX9_isHidden_6 : decode cX9_isHidden 6 = .ok (.aload_n 0, 1) := by decide +kernel
theorem dX9_isHidden_7 : decode cX9_isHidden 7 = .ok (.getfield 57, 3) := by decide +kernel
theorem dX9_isHidden_10 : decode cX9_isHidden 10 = .ok (.irem, 1) := by decide +kernel
theorem dX9_isHidden_11 : decode cX9_isHidden 11 = .ok (.aload_n 0, 1) := by decide +kernel
theorem dX9_isHidden_12 : decode cX9_isHidden 12 = .ok (.getfield 37, 3) := by decide +kernel
theorem dX9_isHidden_15 : decode cX9_isHidden 15 = .ok (.iload_n 2, 1) := by decide +kernel
theorem dX9_isHidden_16 : decode cX9_isHidden 16 = .ok (.iaload, 1) := by decide +kernel
theorem dX9_isHidden_17 : decode cX9_isHidden 17 = .ok (.aload_n 0, 1) := by decide +kernel
theorem dX9_isHidden_18 : decode cX9_isHidden 18 = .ok (.getfield 57, 3) := by decide +kernel
theorem dX9_isHidden_21 : decode cX9_isHidden 21 = .ok (.irem, 1) := by decide +kernel
theorem dX9_isHidden_22 : decode cX9_isHidden 22 = .ok (.if_icmp .ne 45, 3) := by decide +kernel
theorem dX9_isHidden_25 : decode cX9_isHidden 25 = .ok (.aload_n 0, 1) := by decide +kernel
theorem dX9_isHidden_26 : decode cX9_isHidden 26 = .ok (.getfield 37, 3) := by decide +kernel
theorem dX9_isHidden_29 : decode cX9_isHidden 29 = .ok (.iload_n 2, 1) := by decide +kernel
theorem dX9_isHidden_30 : decode cX9_isHidden 30 = .ok (.iaload, 1) := by decide +kernel
theorem dX9_isHidden_31 : decode cX9_isHidden 31 = .ok (.aload_n 0, 1) := by decide +kernel
theorem dX9_isHidden_32 : decode cX9_isHidden 32 = .ok (.getfield 57, 3) := by decide +kernel
theorem dX9_isHidden_35 : decode cX9_isHidden 35 = .ok (.idiv, 1) := by decide +kernel
theorem dX9_isHidden_36 : decode cX9_isHidden 36 = .ok (.aload_n 0, 1) := by decide +kernel
theorem dX9_isHidden_37 : decode cX9_isHidden 37 = .ok (.getfield 37, 3) := by decide +kernel
theorem dX9_isHidden_40 : decode cX9_isHidden 40 = .ok (.iload_n 1, 1) := by decide +kernel
theorem dX9_isHidden_41 : decode cX9_isHidden 41 = .ok (.iaload, 1) := by decide +kernel
theorem dX9_isHidden_42 : decode cX9_isHidden 42 = .ok (.aload_n 0, 1) := by decide +kernel
theorem dX9_isHidden_43 : decode cX9_isHidden 43 = .ok (.getfield 57, 3) := by decide +kernel
theorem dX9_isHidden_46 : decode cX9_isHidden 46 = .ok (.idiv, 1) := by decide +kernel
theorem dX9_isHidden_47 : decode cX9_isHidden 47 = .ok (.if_icmp .ge 20, 3) := by decide +kernel
theorem dX9_isHidden_50 : decode cX9_isHidden 50 = .ok (.aload_n 0, 1) := by decide +kernel
theorem dX9_isHidden_51 : decode cX9_isHidden 51 = .ok (.iload_n 1, 1) := by decide +kernel
theorem dX9_isHidden_52 : decode cX9_isHidden 52 = .ok (.invokevirtual 197, 3) := by decide +kernel
theorem dX9_isHidden_55 : decode cX9_isHidden 55 = .ok (.aload_n 0, 1) := by decide +kernel
theorem dX9_isHidden_56 : decode cX9_isHidden 56 = .ok (.iload_n 2, 1) := by decide +kernel
theorem dX9_isHidden_57 : decode cX9_isHidden 57 = .ok (.invokevirtual 197, 3) := by decide +kernel
theorem dX9_isHidden_60 : decode cX9_isHidden 60 = .ok (.if_icmp .gt 7, 3) := by decide +kernel
theorem dX9_isHidden_63 : decode cX9_isHidden 63 = .ok (.iconst 1, 1) := by decide +kernel
theorem dX9_isHidden_64 : decode cX9_isHidden 64 = .ok (.goto 4, 3) := by decide +kernel
theorem dX9_isHidden_67 : decode cX9_isHidden 67 = .ok (.iconst 0, 1) := by decide +kernel
theorem dX9_isHidden_68 : decode cX9_isHidden 68 = .ok (.ireturn, 1) := by decide +kernel
theorem dX9_areBeside_0 : decode cX9_areBeside 0 = .ok (.aload_n 0, 1) := by decide +kernel
theorem dX9_areBeside_1 : decode cX9_areBeside 1 = .ok (.getfield 37, 3) := by decide +kernel
theorem dX9_areBeside_4 : decode cX9_areBeside 4 = .ok (.iload_n 1, 1) := by decide +kernel
theorem dX9_areBeside_5 : decode cX9_areBeside 5 = .ok (.iaload, 1) := by decide +kernel
theorem dX9_areBeside_6 : decode cX9_areBeside 6 = .ok (.aload_n 0, 1) := by decide +kernel
theorem dX9_areBeside_7 : decode cX9_areBeside 7 = .ok (.getfield 57, 3) := by decide +kernel
theorem dX9_areBeside_10 : decode cX9_areBeside 10 = .ok (.irem, 1) := by decide +kernel
theorem dX9_areBeside_11 : decode cX9_areBeside 11 = .ok (.aload_n 0, 1) := by decide +kernel
theorem dX9_areBeside_12 : decode cX9_areBeside 12 = .ok (.getfield 37, 3) := by decide +kernel
theorem dX9_areBeside_15 : decode cX9_areBeside 15 = .ok (.iload_n 2, 1) := by decide +kernel
theorem dX9_areBeside_16 : decode cX9_areBeside 16 = .ok (.iaload, 1) := by decide +kernel
theorem dX9_areBeside_17 : decode cX9_areBeside 17 = .ok (.aload_n 0, 1) := by decide +kernel
theorem dX9_areBeside_18 : decode cX9_areBeside 18 = .ok (.getfield 57, 3) := by decide +kernel
theorem dX9_areBeside_21 : decode cX9_areBeside 21 = .ok (.irem, 1) := by decide +kernel
theorem dX9_areBeside_22 : decode cX9_areBeside 22 = .ok (.isub, 1) := by decide +kernel
theorem dX9_areBeside_23 : decode cX9_areBeside 23 = .ok (.istore_n 3, 1) := by decide +kernel
theorem dX9_areBeside_24 : decode cX9_areBeside 24 = .ok (.aload_n 0, 1) := by decide +kernel
theorem dX9_areBeside_25 : decode cX9_areBeside 25 = .ok (.getfield 37, 3) := by decide +kernel
theorem dX9_areBeside_28 : decode cX9_areBeside 28 = .ok (.iload_n 1, 1) := by decide +kernel
theorem dX9_areBeside_29 : decode cX9_areBeside 29 = .ok (.iaload, 1) := by decide +kernel
theorem dX9_areBeside_30 : decode cX9_areBeside 30 = .ok (.aload_n 0, 1) := by decide +kernel
theorem dX9_areBeside_31 : decode cX9_areBeside 31 = .ok (.getfield 57, 3) := by decide +kernel
theorem dX9_areBeside_34 : decode cX9_areBeside 34 = .ok (.idiv, 1) := by decide +kernel
theorem dX9_areBeside_35 : decode cX9_areBeside 35 = .ok (.aload_n 0, 1) := by decide +kernel
theorem dX9_areBeside_36 : decode cX9_areBeside 36 = .ok (.getfield 37, 3) := by decide +kernel
theorem dX9_areBeside_39 : decode cX9_areBeside 39 = .ok (.iload_n 2, 1) := by decide +kernel
theorem dX9_areBeside_40 : decode cX9_areBeside 40 = .ok (.iaload, 1) := by decide +kernel
theorem dX9_areBeside_41 : decode cX9_areBeside 41 = .ok (.aload_n 0, 1) := by decide +kernel
theorem dX9_areBeside_42 : decode cX9_areBeside 42 = .ok (.getfield 57, 3) := by decide +kernel
theorem dX9_areBeside_45 : decode cX9_areBeside 45 = .ok (.idiv, 1) := by decide +kernel
theorem dX9_areBeside_46 : decode cX9_areBeside 46 = .ok (.isub, 1) := by decide +kernel
theorem dX9_areBeside_47 : decode cX9_areBeside 47 = .ok (.istore 4, 2) := by decide +kernel
theorem dX9_areBeside_49 : decode cX9_areBeside 49 = .ok (.iload_n 3, 1) := by decide +kernel
theorem dX9_areBeside_50 : decode cX9_areBeside 50 = .ok (.iload_n 3, 1) := by decide +kernel
theorem dX9_areBeside_51 : decode cX9_areBeside 51 = .ok (.imul, 1) := by decide +kernel
theorem dX9_areBeside_52 : decode cX9_areBeside 52 = .ok (.iload 4, 2) := by decide +kernel
theorem dX9_areBeside_54 : decode cX9_areBeside 54 = .ok (.iload 4, 2) := by decide +kernel
theorem dX9_areBeside_56 : decode cX9_areBeside 56 = .ok (.imul, 1) := by decide +kernel
theorem dX9_areBeside_57 : decode cX9_areBeside 57 = .ok (.iadd, 1) := by decide +kernel
theorem dX9_areBeside_58 : decode cX9_areBeside 58 = .ok (.iconst 1, 1) := by decide +kernel
theorem dX9_areBeside_59 : decode cX9_areBeside 59 = .ok (.if_icmp .ne 7, 3) := by decide +kernel
theorem dX9_areBeside_62 : decode cX9_areBeside 62 = .ok (.iconst 1, 1) := by decide +kernel
theorem dX9_areBeside_63 : decode cX9_areBeside 63 = .ok (.goto 4, 3) := by decide +kernel
theorem dX9_areBeside_66 : decode cX9_areBeside 66 = .ok (.iconst 0, 1) := by decide +kernel
theorem dX9_areBeside_67 : decode cX9_areBeside 67 = .ok (.ireturn, 1) := by decide +kernel
theorem dX9_wrongWith_0 : decode cX9_wrongWith 0 = .ok (.bipush (-6), 2) := by decide +kernel
theorem dX9_wrongWith_2 : decode cX9_wrongWith 2 = .ok (.istore_n 2, 1) := by decide +kernel
theorem dX9_wrongWith_3 : decode cX9_wrongWith 3 = .ok (.iconst 0, 1) := by decide +kernel
theorem dX9_wrongWith_4 : decode cX9_wrongWith 4 = .ok (.istore_n 3, 1) := by decide +kernel
theorem dX9_wrongWith_5 : decode cX9_wrongWith 5 = .ok (.iload_n 3, 1) := by decide +kernel
theorem dX9_wrongWith_6 : decode cX9_wrongWith 6 = .ok (.aload_n 0, 1) := by decide +kernel
theorem dX9_wrongWith_7 : decode cX9_wrongWith 7 = .ok (.getfield 70, 3) := by decide +kernel
theorem dX9_wrongWith_10 : decode cX9_wrongWith 10 = .ok (.if_icmp .ge 104, 3) := by decide +kernel
theorem dX9_wrongWith_13 : decode cX9_wrongWith 13 = .ok (.iload_n 3, 1) := by decide +kernel
theorem dX9_wrongWith_14 : decode cX9_wrongWith 14 = .ok (.iload_n 1, 1) := by decide +kernel
theorem dX9_wrongWith_15 : decode cX9_wrongWith 15 = .ok (.if_icmp .eq 93, 3) := by decide +kernel
theorem dX9_wrongWith_18 : decode cX9_wrongWith 18 = .ok (.aload_n 0, 1) := by decide +kernel
theorem dX9_wrongWith_19 : decode cX9_wrongWith 19 = .ok (.getfield 28, 3) := by decide +kernel
theorem dX9_wrongWith_22 : decode cX9_wrongWith 22 = .ok (.bipush 8, 2) := by decide +kernel
theorem dX9_wrongWith_24 : decode cX9_wrongWith 24 = .ok (.iload_n 1, 1) := by decide +kernel
theorem dX9_wrongWith_25 : decode cX9_wrongWith 25 = .ok (.imul, 1) := by decide +kernel
theorem dX9_wrongWith_26 : decode cX9_wrongWith 26 = .ok (.iload_n 3, 1) := by decide +kernel
theorem dX9_wrongWith_27 : decode cX9_wrongWith 27 = .ok (.iadd, 1) := by decide +kernel
theorem dX9_wrongWith_28 : decode cX9_wrongWith 28 = .ok (.iaload, 1) := by decide +kernel
theorem dX9_wrongWith_29 : decode cX9_wrongWith 29 = .ok (.istore 4, 2) := by decide +kernel
theorem dX9_wrongWith_31 : decode cX9_wrongWith 31 = .ok (.aload_n 0, 1) := by decide +kernel
theorem dX9_wrongWith_32 : decode cX9_wrongWith 32 = .ok (.iload_n 1, 1) := by decide +kernel
theorem dX9_wrongWith_33 : decode cX9_wrongWith 33 = .ok (.iload_n 3, 1) := by decide +kernel
theorem dX9_wrongWith_34 : decode cX9_wrongWith 34 = .ok (.invokevirtual 200, 3) := by decide +kernel
theorem dX9_wrongWith_37 : decode cX9_wrongWith 37 = .ok (.ifCond .eq 7, 3) := by decide +kernel
theorem dX9_wrongWith_40 : decode cX9_wrongWith 40 = .ok (.iconst 1, 1) := by decide +kernel
theorem dX9_wrongWith_41 : decode cX9_wrongWith 41 = .ok (.goto 43, 3) := by decide +kernel
theorem dX9_wrongWith_44 : decode cX9_wrongWith 44 = .ok (.iload 4, 2) := by decide +kernel
theorem dX9_wrongWith_46 : decode cX9_wrongWith 46 = .ok (.iconst 1, 1) := by decide +kernel
theorem dX9_wrongWith_47 : decode cX9_wrongWith 47 = .ok (.if_icmp .ne 16, 3) := by decide +kernel
theorem dX9_wrongWith_50 : decode cX9_wrongWith 50 = .ok (.aload_n 0, 1) := by decide +kernel
theorem dX9_wrongWith_51 : decode cX9_wrongWith 51 = .ok (.iload_n 1, 1) := by decide +kernel
theorem dX9_wrongWith_52 : decode cX9_wrongWith 52 = .ok (.iload_n 3, 1) := by decide +kernel
theorem dX9_wrongWith_53 : decode cX9_wrongWith 53 = .ok (.invokevirtual 203, 3) := by decide +kernel
theorem dX9_wrongWith_56 : decode cX9_wrongWith 56 = .ok (.ifCond .eq 7, 3) := by decide +kernel
theorem dX9_wrongWith_59 : decode cX9_wrongWith 59 = .ok (.iconst 2, 1) := by decide +kernel
theorem dX9_wrongWith_60 : decode cX9_wrongWith 60 = .ok (.goto 24, 3) := by decide +kernel
theorem dX9_wrongWith_63 : decode cX9_wrongWith 63 = .ok (.iload 4, 2) := by decide +kernel
theorem dX9_wrongWith_65 : decode cX9_wrongWith 65 = .ok (.iconst 2, 1) := by decide +kernel
theorem dX9_wrongWith_66 : decode cX9_wrongWith 66 = .ok (.if_icmp .ne 16, 3) := by decide +kernel
theorem dX9_wrongWith_69 : decode cX9_wrongWith 69 = .ok (.aload_n 0, 1) := by decide +kernel
theorem dX9_wrongWith_70 : decode cX9_wrongWith 70 = .ok (.iload_n 1, 1) := by decide +kernel
theorem dX9_wrongWith_71 : decode cX9_wrongWith 71 = .ok (.iload_n 3, 1) := by decide +kernel
theorem dX9_wrongWith_72 : decode cX9_wrongWith 72 = .ok (.invokevirtual 203, 3) := by decide +kernel
theorem dX9_wrongWith_75 : decode cX9_wrongWith 75 = .ok (.ifCond .ne 7, 3) := by decide +kernel
theorem dX9_wrongWith_78 : decode cX9_wrongWith 78 = .ok (.iconst 3, 1) := by decide +kernel
theorem dX9_wrongWith_79 : decode cX9_wrongWith 79 = .ok (.goto 5, 3) := by decide +kernel
theorem dX9_wrongWith_82 : decode cX9_wrongWith 82 = .ok (.bipush (-6), 2) := by decide +kernel
theorem dX9_wrongWith_84 : decode cX9_wrongWith 84 = .ok (.istore 5, 2) := by decide +kernel
theorem dX9_wrongWith_86 : decode cX9_wrongWith 86 = .ok (.iload 5, 2) := by decide +kernel
theorem dX9_wrongWith_88 : decode cX9_wrongWith 88 = .ok (.ifCond .lt 18, 3) := by decide +kernel
theorem dX9_wrongWith_91 : decode cX9_wrongWith 91 = .ok (.iload_n 2, 1) := by decide +kernel
theorem dX9_wrongWith_92 : decode cX9_wrongWith 92 = .ok (.ifCond .lt 9, 3) := by decide +kernel
theorem dX9_wrongWith_95 : decode cX9_wrongWith 95 = .ok (.iload 5, 2) := by decide +kernel
theorem dX9_wrongWith_97 : decode cX9_wrongWith 97 = .ok (.iload_n 2, 1) := by decide +kernel
theorem dX9_wrongWith_98 : decode cX9_wrongWith 98 = .ok (.if_icmp .ge 8, 3) := by decide +kernel
theorem dX9_wrongWith_101 : decode cX9_wrongWith 101 = .ok (.iload 5, 2) := by decide +kernel
theorem dX9_wrongWith_103 : decode cX9_wrongWith 103 = .ok (.goto 4, 3) := by decide +kernel
theorem dX9_wrongWith_106 : decode cX9_wrongWith 106 = .ok (.iload_n 2, 1) := by decide +kernel
theorem dX9_wrongWith_107 : decode cX9_wrongWith 107 = .ok (.istore_n 2, 1) := by decide +kernel
theorem dX9_wrongWith_108 : decode cX9_wrongWith 108 = .ok (.iinc 3 1, 3) := by decide +kernel
theorem dX9_wrongWith_111 : decode cX9_wrongWith 111 = .ok (.goto (-106), 3) := by decide +kernel
theorem dX9_wrongWith_114 : decode cX9_wrongWith 114 = .ok (.iload_n 2, 1) := by decide +kernel
theorem dX9_wrongWith_115 : decode cX9_wrongWith 115 = .ok (.ireturn, 1) := by decide +kernel
theorem dX9_judge_0 : decode cX9_judge 0 = .ok (.iload_n 1, 1) := by decide +kernel
theorem dX9_judge_1 : decode cX9_judge 1 = .ok (.i2l, 1) := by decide +kernel
theorem dX9_judge_2 : decode cX9_judge 2 = .ok (.lconst 0, 1) := by decide +kernel
theorem dX9_judge_3 : decode cX9_judge 3 = .ok (.lconst 1, 1) := by decide +kernel
theorem dX9_judge_4 : decode cX9_judge 4 = .ok (.invokestatic 82, 3) := by decide +kernel
theorem dX9_judge_7 : decode cX9_judge 7 = .ok (.ifCond .ne 6, 3) := by decide +kernel
theorem dX9_judge_10 : decode cX9_judge 10 = .ok (.bipush (-2), 2) := by decide +kernel
theorem dX9_judge_12 : decode cX9_judge 12 = .ok (.ireturn, 1) := by decide +kernel
theorem dX9_judge_13 : decode cX9_judge 13 = .ok (.aload_n 0, 1) := by decide +kernel
theorem dX9_judge_14 : decode cX9_judge 14 = .ok (.invokevirtual 109, 3) := by decide +kernel
theorem dX9_judge_17 : decode cX9_judge 17 = .ok (.ifCond .lt 6, 3) := by decide +kernel
theorem dX9_judge_20 : decode cX9_judge 20 = .ok (.bipush (-5), 2) := by decide +kernel
theorem dX9_judge_22 : decode cX9_judge 22 = .ok (.ireturn, 1) := by decide +kernel
theorem dX9_judge_23 : decode cX9_judge 23 = .ok (.iconst 0, 1) := by decide +kernel
theorem dX9_judge_24 : decode cX9_judge 24 = .ok (.istore_n 2, 1) := by decide +kernel
theorem dX9_judge_25 : decode cX9_judge 25 = .ok (.iload_n 2, 1) := by decide +kernel
theorem dX9_judge_26 : decode cX9_judge 26 = .ok (.aload_n 0, 1) := by decide +kernel
theorem dX9_judge_27 : decode cX9_judge 27 = .ok (.getfield 70, 3) := by decide +kernel
theorem dX9_judge_30 : decode cX9_judge 30 = .ok (.if_icmp .ge 24, 3) := by decide +kernel
theorem dX9_judge_33 : decode cX9_judge 33 = .ok (.aload_n 0, 1) := by decide +kernel
theorem dX9_judge_34 : decode cX9_judge 34 = .ok (.getfield 37, 3) := by decide +kernel
theorem dX9_judge_37 : decode cX9_judge 37 = .ok (.iload_n 2, 1) := by decide +kernel
theorem dX9_judge_38 : decode cX9_judge 38 = .ok (.aload_n 0, 1) := by decide +kernel
theorem dX9_judge_39 : decode cX9_judge 39 = .ok (.getfield 31, 3) := by decide +kernel
theorem dX9_judge_42 : decode cX9_judge 42 = .ok (.iload_n 2, 1) := by decide +kernel
theorem dX9_judge_43 : decode cX9_judge 43 = .ok (.iaload, 1) := by decide +kernel
theorem dX9_judge_44 : decode cX9_judge 44 = .ok (.bipush 48, 2) := by decide +kernel
theorem dX9_judge_46 : decode cX9_judge 46 = .ok (.isub, 1) := by decide +kernel
theorem dX9_judge_47 : decode cX9_judge 47 = .ok (.iastore, 1) := by decide +kernel
theorem dX9_judge_48 : decode cX9_judge 48 = .ok (.iinc 2 1, 3) := by decide +kernel
theorem dX9_judge_51 : decode cX9_judge 51 = .ok (.goto (-26), 3) := by decide +kernel
theorem dX9_judge_54 : decode cX9_judge 54 = .ok (.iconst 0, 1) := by decide +kernel
theorem dX9_judge_55 : decode cX9_judge 55 = .ok (.istore_n 2, 1) := by decide +kernel
theorem dX9_judge_56 : decode cX9_judge 56 = .ok (.iload_n 2, 1) := by decide +kernel
theorem dX9_judge_57 : decode cX9_judge 57 = .ok (.aload_n 0, 1) := by decide +kernel
theorem dX9_judge_58 : decode cX9_judge 58 = .ok (.getfield 70, 3) := by decide +kernel
theorem dX9_judge_61 : decode cX9_judge 61 = .ok (.if_icmp .ge 29, 3) := by decide +kernel
theorem dX9_judge_64 : decode cX9_judge 64 = .ok (.aload_n 0, 1) := by decide +kernel
theorem dX9_judge_65 : decode cX9_judge 65 = .ok (.iload_n 2, 1) := by decide +kernel
theorem dX9_judge_66 : decode cX9_judge 66 = .ok (.invokevirtual 206, 3) := by decide +kernel
theorem dX9_judge_69 : decode cX9_judge 69 = .ok (.istore_n 3, 1) := by decide +kernel
theorem dX9_judge_70 : decode cX9_judge 70 = .ok (.iload_n 3, 1) := by decide +kernel
theorem dX9_judge_71 : decode cX9_judge 71 = .ok (.ifCond .lt 13, 3) := by decide +kernel
theorem dX9_judge_74 : decode cX9_judge 74 = .ok (.iload_n 1, 1) := by decide +kernel
theorem dX9_judge_75 : decode cX9_judge 75 = .ok (.ifCond .ne 7, 3) := by decide +kernel
theorem dX9_judge_78 : decode cX9_judge 78 = .ok (.iload_n 2, 1) := by decide +kernel
theorem dX9_judge_79 : decode cX9_judge 79 = .ok (.goto 4, 3) := by decide +kernel
theorem dX9_judge_82 : decode cX9_judge 82 = .ok (.iload_n 3, 1) := by decide +kernel
theorem dX9_judge_83 : decode cX9_judge 83 = .ok (.ireturn, 1) := by decide +kernel
theorem dX9_judge_84 : decode cX9_judge 84 = .ok (.iinc 2 1, 3) := by decide +kernel
theorem dX9_judge_87 : decode cX9_judge 87 = .ok (.goto (-31), 3) := by decide +kernel
theorem dX9_judge_90 : decode cX9_judge 90 = .ok (.bipush (-6), 2) := by decide +kernel
theorem dX9_judge_92 : decode cX9_judge 92 = .ok (.ireturn, 1) := by decide +kernel
theorem dX9_goesWith_0 : decode cX9_goesWith 0 = .ok (.aload_n 0, 1) := by decide +kernel
theorem dX9_goesWith_1 : decode cX9_goesWith 1 = .ok (.getfield 37, 3) := by decide +kernel
theorem dX9_goesWith_4 : decode cX9_goesWith 4 = .ok (.iload_n 1, 1) := by decide +kernel
theorem dX9_goesWith_5 : decode cX9_goesWith 5 = .ok (.iaload, 1) := by decide +kernel
theorem dX9_goesWith_6 : decode cX9_goesWith 6 = .ok (.aload_n 0, 1) := by decide +kernel
theorem dX9_goesWith_7 : decode cX9_goesWith 7 = .ok (.invokevirtual 102, 3) := by decide +kernel
theorem dX9_goesWith_10 : decode cX9_goesWith 10 = .ok (.if_icmp .ge 7, 3) := by decide +kernel
theorem dX9_goesWith_13 : decode cX9_goesWith 13 = .ok (.iconst 1, 1) := by decide +kernel
theorem dX9_goesWith_14 : decode cX9_goesWith 14 = .ok (.goto 4, 3) := by decide +kernel
theorem dX9_goesWith_17 : decode cX9_goesWith 17 = .ok (.iconst 0, 1) := by decide +kernel
theorem dX9_goesWith_18 : decode cX9_goesWith 18 = .ok (.istore_n 2, 1) := by decide +kernel
theorem dX9_goesWith_19 : decode cX9_goesWith 19 = .ok (.iconst 0, 1) := by decide +kernel
theorem dX9_goesWith_20 : decode cX9_goesWith 20 = .ok (.istore_n 3, 1) := by decide +kernel
theorem dX9_goesWith_21 : decode cX9_goesWith 21 = .ok (.iload_n 3, 1) := by decide +kernel
theorem dX9_goesWith_22 : decode cX9_goesWith 22 = .ok (.iload_n 1, 1) := by decide +kernel
theorem dX9_goesWith_23 : decode cX9_goesWith 23 = .ok (.if_icmp .ge 95, 3) := by decide +kernel
theorem dX9_goesWith_26 : decode cX9_goesWith 26 = .ok (.iload_n 2, 1) := by decide +kernel
theorem dX9_goesWith_27 : decode cX9_goesWith 27 = .ok (.ifCond .eq 91, 3) := by decide +kernel
theorem dX9_goesWith_30 : decode cX9_goesWith 30 = .ok (.aload_n 0, 1) := by decide +kernel
theorem dX9_goesWith_31 : decode cX9_goesWith 31 = .ok (.getfield 28, 3) := by decide +kernel
theorem dX9_goesWith_34 : decode cX9_goesWith 34 = .ok (.bipush 8, 2) := by decide +kernel
theorem dX9_goesWith_36 : decode cX9_goesWith 36 = .ok (.iload_n 1, 1) := by decide +kernel
theorem dX9_goesWith_37 : decode cX9_goesWith 37 = .ok (.imul, 1) := by decide +kernel
theorem dX9_goesWith_38 : decode cX9_goesWith 38 = .ok (.iload_n 3, 1) := by decide +kernel
theorem dX9_goesWith_39 : decode cX9_goesWith 39 = .ok (.iadd, 1) := by decide +kernel
theorem dX9_goesWith_40 : decode cX9_goesWith 40 = .ok (.iaload, 1) := by decide +kernel
theorem dX9_goesWith_41 : decode cX9_goesWith 41 = .ok (.istore 4, 2) := by decide +kernel
theorem dX9_goesWith_43 : decode cX9_goesWith 43 = .ok (.aload_n 0, 1) := by decide +kernel
theorem dX9_goesWith_44 : decode cX9_goesWith 44 = .ok (.getfield 37, 3) := by decide +kernel
theorem dX9_goesWith_47 : decode cX9_goesWith 47 = .ok (.iload_n 3, 1) := by decide +kernel
theorem dX9_goesWith_48 : decode cX9_goesWith 48 = .ok (.iaload, 1) := by decide +kernel
theorem dX9_goesWith_49 : decode cX9_goesWith 49 = .ok (.aload_n 0, 1) := by decide +kernel
theorem dX9_goesWith_50 : decode cX9_goesWith 50 = .ok (.getfield 37, 3) := by decide +kernel
theorem dX9_goesWith_53 : decode cX9_goesWith 53 = .ok (.iload_n 1, 1) := by decide +kernel
theorem dX9_goesWith_54 : decode cX9_goesWith 54 = .ok (.iaload, 1) := by decide +kernel
theorem dX9_goesWith_55 : decode cX9_goesWith 55 = .ok (.if_icmp .eq 55, 3) := by decide +kernel
theorem dX9_goesWith_58 : decode cX9_goesWith 58 = .ok (.aload_n 0, 1) := by decide +kernel
theorem dX9_goesWith_59 : decode cX9_goesWith 59 = .ok (.iload_n 1, 1) := by decide +kernel
theorem dX9_goesWith_60 : decode cX9_goesWith 60 = .ok (.iload_n 3, 1) := by decide +kernel
theorem dX9_goesWith_61 : decode cX9_goesWith 61 = .ok (.invokevirtual 200, 3) := by decide +kernel
theorem dX9_goesWith_64 : decode cX9_goesWith 64 = .ok (.ifCond .ne 46, 3) := by decide +kernel
theorem dX9_goesWith_67 : decode cX9_goesWith 67 = .ok (.aload_n 0, 1) := by decide +kernel
theorem dX9_goesWith_68 : decode cX9_goesWith 68 = .ok (.iload_n 3, 1) := by decide +kernel
theorem dX9_goesWith_69 : decode cX9_goesWith 69 = .ok (.iload_n 1, 1) := by decide +kernel
theorem dX9_goesWith_70 : decode cX9_goesWith 70 = .ok (.invokevirtual 200, 3) := by decide +kernel
theorem dX9_goesWith_73 : decode cX9_goesWith 73 = .ok (.ifCond .ne 37, 3) := by decide +kernel
theorem dX9_goesWith_76 : decode cX9_goesWith 76 = .ok (.iload 4, 2) := by decide +kernel
theorem dX9_goesWith_78 : decode cX9_goesWith 78 = .ok (.iconst 1, 1) := by decide +kernel
theorem dX9_goesWith_79 : decode cX9_goesWith 79 = .ok (.if_icmp .ne 12, 3) := by decide +kernel
theorem dX9_goesWith_82 : decode cX9_goesWith 82 = .ok (.aload_n 0, 1) := by decide +kernel
theorem dX9_goesWith_83 : decode cX9_goesWith 83 = .ok (.iload_n 1, 1) := by decide +kernel
theorem dX9_goesWith_84 : decode cX9_goesWith 84 = .ok (.iload_n 3, 1) := by decide +kernel
theorem dX9_goesWith_85 : decode cX9_goesWith 85 = .ok (.invokevirtual 203, 3) := by decide +kernel
theorem dX9_goesWith_88 : decode cX9_goesWith 88 = .ok (.ifCond .ne 22, 3) := by decide +kernel
theorem dX9_goesWith_91 : decode cX9_goesWith 91 = .ok (.iload 4, 2) := by decide +kernel
theorem dX9_goesWith_93 : decode cX9_goesWith 93 = .ok (.iconst 2, 1) := by decide +kernel
theorem dX9_goesWith_94 : decode cX9_goesWith 94 = .ok (.if_icmp .ne 12, 3) := by decide +kernel
theorem dX9_goesWith_97 : decode cX9_goesWith 97 = .ok (.aload_n 0, 1) := by decide +kernel
theorem dX9_goesWith_98 : decode cX9_goesWith 98 = .ok (.iload_n 1, 1) := by decide +kernel
theorem dX9_goesWith_99 : decode cX9_goesWith 99 = .ok (.iload_n 3, 1) := by decide +kernel
theorem dX9_goesWith_100 : decode cX9_goesWith 100 = .ok (.invokevirtual 203, 3) := by decide +kernel
theorem dX9_goesWith_103 : decode cX9_goesWith 103 = .ok (.ifCond .eq 7, 3) := by decide +kernel
theorem dX9_goesWith_106 : decode cX9_goesWith 106 = .ok (.iconst 1, 1) := by decide +kernel
theorem dX9_goesWith_107 : decode cX9_goesWith 107 = .ok (.goto 4, 3) := by decide +kernel
theorem dX9_goesWith_110 : decode cX9_goesWith 110 = .ok (.iconst 0, 1) := by decide +kernel
theorem dX9_goesWith_111 : decode cX9_goesWith 111 = .ok (.istore_n 2, 1) := by decide +kernel
theorem dX9_goesWith_112 : decode cX9_goesWith 112 = .ok (.iinc 3 1, 3) := by decide +kernel
theorem dX9_goesWith_115 : decode cX9_goesWith 115 = .ok (.goto (-94), 3) := by decide +kernel
theorem dX9_goesWith_118 : decode cX9_goesWith 118 = .ok (.iload_n 2, 1) := by decide +kernel
theorem dX9_goesWith_119 : decode cX9_goesWith 119 = .ok (.ireturn, 1) := by decide +kernel
theorem dX9_findStandings_0 : decode cX9_findStandings 0 = .ok (.iconst 0, 1) := by decide +kernel
theorem dX9_findStandings_1 : decode cX9_findStandings 1 = .ok (.istore_n 1, 1) := by decide +kernel
theorem dX9_findStandings_2 : decode cX9_findStandings 2 = .ok (.iconst 0, 1) := by decide +kernel
theorem dX9_findStandings_3 : decode cX9_findStandings 3 = .ok (.istore_n 2, 1) := by decide +kernel
theorem dX9_findStandings_4 : decode cX9_findStandings 4 = .ok (.aload_n 0, 1) := by decide +kernel
theorem dX9_findStandings_5 : decode cX9_findStandings 5 = .ok (.getfield 37, 3) := by decide +kernel
theorem dX9_findStandings_8 : decode cX9_findStandings 8 = .ok (.iconst 0, 1) := by decide +kernel
