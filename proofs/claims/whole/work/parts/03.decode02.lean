theorem dX6_take_55 : decode cX6_take 55 = .ok (.bipush 111, 2) := by decide +kernel
theorem dX6_take_57 : decode cX6_take 57 = .ok (.if_icmp .ne 16, 3) := by decide +kernel
theorem dX6_take_60 : decode cX6_take 60 = .ok (.aload_n 0, 1) := by decide +kernel
theorem dX6_take_61 : decode cX6_take 61 = .ok (.getfield 15, 3) := by decide +kernel
theorem dX6_take_64 : decode cX6_take 64 = .ok (.iload_n 3, 1) := by decide +kernel
theorem dX6_take_65 : decode cX6_take 65 = .ok (.dup2, 1) := by decide +kernel
theorem dX6_take_66 : decode cX6_take 66 = .ok (.iaload, 1) := by decide +kernel
theorem dX6_take_67 : decode cX6_take 67 = .ok (.iconst 1, 1) := by decide +kernel
theorem dX6_take_68 : decode cX6_take 68 = .ok (.iload 4, 2) := by decide +kernel
theorem dX6_take_70 : decode cX6_take 70 = .ok (.ishl, 1) := by decide +kernel
theorem dX6_take_71 : decode cX6_take 71 = .ok (.ior, 1) := by decide +kernel
theorem dX6_take_72 : decode cX6_take 72 = .ok (.iastore, 1) := by decide +kernel
theorem dX6_take_73 : decode cX6_take 73 = .ok (.iinc 4 1, 3) := by decide +kernel
theorem dX6_take_76 : decode cX6_take 76 = .ok (.goto (-51), 3) := by decide +kernel
theorem dX6_take_79 : decode cX6_take 79 = .ok (.aload_n 0, 1) := by decide +kernel
theorem dX6_take_80 : decode cX6_take 80 = .ok (.dup, 1) := by decide +kernel
theorem dX6_take_81 : decode cX6_take 81 = .ok (.getfield 18, 3) := by decide +kernel
theorem dX6_take_84 : decode cX6_take 84 = .ok (.iconst 1, 1) := by decide +kernel
theorem dX6_take_85 : decode cX6_take 85 = .ok (.iadd, 1) := by decide +kernel
theorem dX6_take_86 : decode cX6_take 86 = .ok (.putfield 18, 3) := by decide +kernel
theorem dX6_take_89 : decode cX6_take 89 = .ok (.iload_n 3, 1) := by decide +kernel
theorem dX6_take_90 : decode cX6_take 90 = .ok (.ireturn, 1) := by decide +kernel
theorem dX6_lookOf_0 : decode cX6_lookOf 0 = .ok (.aload_n 0, 1) := by decide +kernel
theorem dX6_lookOf_1 : decode cX6_lookOf 1 = .ok (.getfield 9, 3) := by decide +kernel
theorem dX6_lookOf_4 : decode cX6_lookOf 4 = .ok (.iload_n 1, 1) := by decide +kernel
theorem dX6_lookOf_5 : decode cX6_lookOf 5 = .ok (.bipush 8, 2) := by decide +kernel
theorem dX6_lookOf_7 : decode cX6_lookOf 7 = .ok (.imul, 1) := by decide +kernel
theorem dX6_lookOf_8 : decode cX6_lookOf 8 = .ok (.iload_n 2, 1) := by decide +kernel
theorem dX6_lookOf_9 : decode cX6_lookOf 9 = .ok (.iadd, 1) := by decide +kernel
theorem dX6_lookOf_10 : decode cX6_lookOf 10 = .ok (.iaload, 1) := by decide +kernel
theorem dX6_lookOf_11 : decode cX6_lookOf 11 = .ok (.ireturn, 1) := by decide +kernel
theorem dX6_isOpen_0 : decode cX6_isOpen 0 = .ok (.aload_n 0, 1) := by decide +kernel
theorem dX6_isOpen_1 : decode cX6_isOpen 1 = .ok (.getfield 15, 3) := by decide +kernel
theorem dX6_isOpen_4 : decode cX6_isOpen 4 = .ok (.iload_n 1, 1) := by decide +kernel
theorem dX6_isOpen_5 : decode cX6_isOpen 5 = .ok (.iaload, 1) := by decide +kernel
theorem dX6_isOpen_6 : decode cX6_isOpen 6 = .ok (.iload_n 2, 1) := by decide +kernel
theorem dX6_isOpen_7 : decode cX6_isOpen 7 = .ok (.ishr, 1) := by decide +kernel
theorem dX6_isOpen_8 : decode cX6_isOpen 8 = .ok (.iconst 1, 1) := by decide +kernel
theorem dX6_isOpen_9 : decode cX6_isOpen 9 = .ok (.iand, 1) := by decide +kernel
theorem dX6_isOpen_10 : decode cX6_isOpen 10 = .ok (.iconst 1, 1) := by decide +kernel
theorem dX6_isOpen_11 : decode cX6_isOpen 11 = .ok (.if_icmp .ne 7, 3) := by decide +kernel
theorem dX6_isOpen_14 : decode cX6_isOpen 14 = .ok (.iconst 1, 1) := by decide +kernel
theorem dX6_isOpen_15 : decode cX6_isOpen 15 = .ok (.goto 4, 3) := by decide +kernel
theorem dX6_isOpen_18 : decode cX6_isOpen 18 = .ok (.iconst 0, 1) := by decide +kernel
theorem dX6_isOpen_19 : decode cX6_isOpen 19 = .ok (.ireturn, 1) := by decide +kernel
theorem dX6_holdHands_0 : decode cX6_holdHands 0 = .ok (.aload_n 0, 1) := by decide +kernel
theorem dX6_holdHands_1 : decode cX6_holdHands 1 = .ok (.getfield 22, 3) := by decide +kernel
theorem dX6_holdHands_4 : decode cX6_holdHands 4 = .ok (.iload_n 1, 1) := by decide +kernel
theorem dX6_holdHands_5 : decode cX6_holdHands 5 = .ok (.ishr, 1) := by decide +kernel
theorem dX6_holdHands_6 : decode cX6_holdHands 6 = .ok (.iconst 1, 1) := by decide +kernel
theorem dX6_holdHands_7 : decode cX6_holdHands 7 = .ok (.iand, 1) := by decide +kernel
theorem dX6_holdHands_8 : decode cX6_holdHands 8 = .ok (.iconst 1, 1) := by decide +kernel
theorem dX6_holdHands_9 : decode cX6_holdHands 9 = .ok (.if_icmp .ne 7, 3) := by decide +kernel
theorem dX6_holdHands_12 : decode cX6_holdHands 12 = .ok (.iconst 1, 1) := by decide +kernel
theorem dX6_holdHands_13 : decode cX6_holdHands 13 = .ok (.goto 4, 3) := by decide +kernel
theorem dX6_holdHands_16 : decode cX6_holdHands 16 = .ok (.iconst 0, 1) := by decide +kernel
theorem dX6_holdHands_17 : decode cX6_holdHands 17 = .ok (.ireturn, 1) := by decide +kernel
theorem dX6_badIn_0 : decode cX6_badIn 0 = .ok (.iload_n 2, 1) := by decide +kernel
theorem dX6_badIn_1 : decode cX6_badIn 1 = .ok (.aload_n 0, 1) := by decide +kernel
theorem dX6_badIn_2 : decode cX6_badIn 2 = .ok (.getfield 15, 3) := by decide +kernel
theorem dX6_badIn_5 : decode cX6_badIn 5 = .ok (.iload_n 1, 1) := by decide +kernel
theorem dX6_badIn_6 : decode cX6_badIn 6 = .ok (.iaload, 1) := by decide +kernel
theorem dX6_badIn_7 : decode cX6_badIn 7 = .ok (.iconst (-1), 1) := by decide +kernel
theorem dX6_badIn_8 : decode cX6_badIn 8 = .ok (.ixor, 1) := by decide +kernel
theorem dX6_badIn_9 : decode cX6_badIn 9 = .ok (.iand, 1) := by decide +kernel
theorem dX6_badIn_10 : decode cX6_badIn 10 = .ok (.invokestatic 41, 3) := by decide +kernel
theorem dX6_badIn_13 : decode cX6_badIn 13 = .ok (.ireturn, 1) := by decide +kernel
theorem dX6_hiddenIn_0 : decode cX6_hiddenIn 0 = .ok (.iconst 0, 1) := by decide +kernel
theorem dX6_hiddenIn_1 : decode cX6_hiddenIn 1 = .ok (.istore_n 3, 1) := by decide +kernel
theorem dX6_hiddenIn_2 : decode cX6_hiddenIn 2 = .ok (.iconst 0, 1) := by decide +kernel
theorem dX6_hiddenIn_3 : decode cX6_hiddenIn 3 = .ok (.istore 4, 2) := by decide +kernel
theorem dX6_hiddenIn_5 : decode cX6_hiddenIn 5 = .ok (.iload 4, 2) := by decide +kernel
theorem dX6_hiddenIn_7 : decode cX6_hiddenIn 7 = .ok (.iload_n 2, 1) := by decide +kernel
theorem dX6_hiddenIn_8 : decode cX6_hiddenIn 8 = .ok (.if_icmp .ge 24, 3) := by decide +kernel
theorem dX6_hiddenIn_11 : decode cX6_hiddenIn 11 = .ok (.aload_n 0, 1) := by decide +kernel
theorem dX6_hiddenIn_12 : decode cX6_hiddenIn 12 = .ok (.iload_n 1, 1) := by decide +kernel
theorem dX6_hiddenIn_13 : decode cX6_hiddenIn 13 = .ok (.iload 4, 2) := by decide +kernel
theorem dX6_hiddenIn_15 : decode cX6_hiddenIn 15 = .ok (.invokevirtual 46, 3) := by decide +kernel
theorem dX6_hiddenIn_18 : decode cX6_hiddenIn 18 = .ok (.bipush 104, 2) := by decide +kernel
theorem dX6_hiddenIn_20 : decode cX6_hiddenIn 20 = .ok (.if_icmp .ne 6, 3) := by decide +kernel
theorem dX6_hiddenIn_23 : decode cX6_hiddenIn 23 = .ok (.iinc 3 1, 3) := by decide +kernel
theorem dX6_hiddenIn_26 : decode cX6_hiddenIn 26 = .ok (.iinc 4 1, 3) := by decide +kernel
theorem dX6_hiddenIn_29 : decode cX6_hiddenIn 29 = .ok (.goto (-24), 3) := by decide +kernel
theorem dX6_hiddenIn_32 : decode cX6_hiddenIn 32 = .ok (.iload_n 3, 1) := by decide +kernel
theorem dX6_hiddenIn_33 : decode cX6_hiddenIn 33 = .ok (.ireturn, 1) := by decide +kernel
theorem dX6_bestSingle_0 : decode cX6_bestSingle 0 = .ok (.bipush (-6), 2) := by decide +kernel
theorem dX6_bestSingle_2 : decode cX6_bestSingle 2 = .ok (.istore_n 3, 1) := by decide +kernel
theorem dX6_bestSingle_3 : decode cX6_bestSingle 3 = .ok (.iconst 0, 1) := by decide +kernel
theorem dX6_bestSingle_4 : decode cX6_bestSingle 4 = .ok (.istore 4, 2) := by decide +kernel
theorem dX6_bestSingle_6 : decode cX6_bestSingle 6 = .ok (.iconst 0, 1) := by decide +kernel
theorem dX6_bestSingle_7 : decode cX6_bestSingle 7 = .ok (.istore 5, 2) := by decide +kernel
theorem dX6_bestSingle_9 : decode cX6_bestSingle 9 = .ok (.iload 5, 2) := by decide +kernel
theorem dX6_bestSingle_11 : decode cX6_bestSingle 11 = .ok (.aload_n 0, 1) := by decide +kernel
theorem dX6_bestSingle_12 : decode cX6_bestSingle 12 = .ok (.getfield 18, 3) := by decide +kernel
theorem dX6_bestSingle_15 : decode cX6_bestSingle 15 = .ok (.if_icmp .ge 72, 3) := by decide +kernel
theorem dX6_bestSingle_18 : decode cX6_bestSingle 18 = .ok (.iload_n 2, 1) := by decide +kernel
theorem dX6_bestSingle_19 : decode cX6_bestSingle 19 = .ok (.bipush (-6), 2) := by decide +kernel
theorem dX6_bestSingle_21 : decode cX6_bestSingle 21 = .ok (.if_icmp .eq 16, 3) := by decide +kernel
theorem dX6_bestSingle_24 : decode cX6_bestSingle 24 = .ok (.aload_n 0, 1) := by decide +kernel
theorem dX6_bestSingle_25 : decode cX6_bestSingle 25 = .ok (.iload 5, 2) := by decide +kernel
theorem dX6_bestSingle_27 : decode cX6_bestSingle 27 = .ok (.iload_n 2, 1) := by decide +kernel
theorem dX6_bestSingle_28 : decode cX6_bestSingle 28 = .ok (.invokevirtual 50, 3) := by decide +kernel
theorem dX6_bestSingle_31 : decode cX6_bestSingle 31 = .ok (.ifCond .ne 6, 3) := by decide +kernel
theorem dX6_bestSingle_34 : decode cX6_bestSingle 34 = .ok (.goto 47, 3) := by decide +kernel
theorem dX6_bestSingle_37 : decode cX6_bestSingle 37 = .ok (.aload_n 0, 1) := by decide +kernel
theorem dX6_bestSingle_38 : decode cX6_bestSingle 38 = .ok (.iload 5, 2) := by decide +kernel
theorem dX6_bestSingle_40 : decode cX6_bestSingle 40 = .ok (.iconst 1, 1) := by decide +kernel
theorem dX6_bestSingle_41 : decode cX6_bestSingle 41 = .ok (.iload_n 1, 1) := by decide +kernel
theorem dX6_bestSingle_42 : decode cX6_bestSingle 42 = .ok (.ishl, 1) := by decide +kernel
theorem dX6_bestSingle_43 : decode cX6_bestSingle 43 = .ok (.iconst 1, 1) := by decide +kernel
theorem dX6_bestSingle_44 : decode cX6_bestSingle 44 = .ok (.isub, 1) := by decide +kernel
theorem dX6_bestSingle_45 : decode cX6_bestSingle 45 = .ok (.invokevirtual 54, 3) := by decide +kernel
theorem dX6_bestSingle_48 : decode cX6_bestSingle 48 = .ok (.bipush 9, 2) := by decide +kernel
theorem dX6_bestSingle_50 : decode cX6_bestSingle 50 = .ok (.imul, 1) := by decide +kernel
theorem dX6_bestSingle_51 : decode cX6_bestSingle 51 = .ok (.aload_n 0, 1) := by decide +kernel
theorem dX6_bestSingle_52 : decode cX6_bestSingle 52 = .ok (.iload 5, 2) := by decide +kernel
theorem dX6_bestSingle_54 : decode cX6_bestSingle 54 = .ok (.iload_n 1, 1) := by decide +kernel
theorem dX6_bestSingle_55 : decode cX6_bestSingle 55 = .ok (.invokevirtual 57, 3) := by decide +kernel
theorem dX6_bestSingle_58 : decode cX6_bestSingle 58 = .ok (.iadd, 1) := by decide +kernel
theorem dX6_bestSingle_59 : decode cX6_bestSingle 59 = .ok (.istore 6, 2) := by decide +kernel
theorem dX6_bestSingle_61 : decode cX6_bestSingle 61 = .ok (.iload_n 3, 1) := by decide +kernel
theorem dX6_bestSingle_62 : decode cX6_bestSingle 62 = .ok (.bipush (-6), 2) := by decide +kernel
theorem dX6_bestSingle_64 : decode cX6_bestSingle 64 = .ok (.if_icmp .eq 10, 3) := by decide +kernel
theorem dX6_bestSingle_67 : decode cX6_bestSingle 67 = .ok (.iload 6, 2) := by decide +kernel
theorem dX6_bestSingle_69 : decode cX6_bestSingle 69 = .ok (.iload 4, 2) := by decide +kernel
theorem dX6_bestSingle_71 : decode cX6_bestSingle 71 = .ok (.if_icmp .ge 10, 3) := by decide +kernel
theorem dX6_bestSingle_74 : decode cX6_bestSingle 74 = .ok (.iload 5, 2) := by decide +kernel
theorem dX6_bestSingle_76 : decode cX6_bestSingle 76 = .ok (.istore_n 3, 1) := by decide +kernel
theorem dX6_bestSingle_77 : decode cX6_bestSingle 77 = .ok (.iload 6, 2) := by decide +kernel
theorem dX6_bestSingle_79 : decode cX6_bestSingle 79 = .ok (.istore 4, 2) := by decide +kernel
theorem dX6_bestSingle_81 : decode cX6_bestSingle 81 = .ok (.iinc 5 1, 3) := by decide +kernel
theorem dX6_bestSingle_84 : decode cX6_bestSingle 84 = .ok (.goto (-75), 3) := by decide +kernel
theorem dX6_bestSingle_87 : decode cX6_bestSingle 87 = .ok (.iload_n 3, 1) := by decide +kernel
theorem dX6_bestSingle_88 : decode cX6_bestSingle 88 = .ok (.ireturn, 1) := by decide +kernel
theorem dX6_leastCover_0 : decode cX6_leastCover 0 = .ok (.bipush (-6), 2) := by decide +kernel
theorem dX6_leastCover_2 : decode cX6_leastCover 2 = .ok (.istore_n 2, 1) := by decide +kernel
theorem dX6_leastCover_3 : decode cX6_leastCover 3 = .ok (.bipush 11, 2) := by decide +kernel
theorem dX6_leastCover_5 : decode cX6_leastCover 5 = .ok (.istore_n 3, 1) := by decide +kernel
theorem dX6_leastCover_6 : decode cX6_leastCover 6 = .ok (.iconst 1, 1) := by decide +kernel
theorem dX6_leastCover_7 : decode cX6_leastCover 7 = .ok (.istore 4, 2) := by decide +kernel
theorem dX6_leastCover_9 : decode cX6_leastCover 9 = .ok (.iload 4, 2) := by decide +kernel
theorem dX6_leastCover_11 : decode cX6_leastCover 11 = .ok (.iconst 1, 1) := by decide +kernel
theorem dX6_leastCover_12 : decode cX6_leastCover 12 = .ok (.aload_n 0, 1) := by decide +kernel
theorem dX6_leastCover_13 : decode cX6_leastCover 13 = .ok (.getfield 18, 3) := by decide +kernel
theorem dX6_leastCover_16 : decode cX6_leastCover 16 = .ok (.ishl, 1) := by decide +kernel
theorem dX6_leastCover_17 : decode cX6_leastCover 17 = .ok (.if_icmp .ge 38, 3) := by decide +kernel
theorem dX6_leastCover_20 : decode cX6_leastCover 20 = .ok (.iload 4, 2) := by decide +kernel
theorem dX6_leastCover_22 : decode cX6_leastCover 22 = .ok (.invokestatic 41, 3) := by decide +kernel
theorem dX6_leastCover_25 : decode cX6_leastCover 25 = .ok (.istore 5, 2) := by decide +kernel
theorem dX6_leastCover_27 : decode cX6_leastCover 27 = .ok (.iload 5, 2) := by decide +kernel
theorem dX6_leastCover_29 : decode cX6_leastCover 29 = .ok (.iload_n 3, 1) := by decide +kernel
theorem dX6_leastCover_30 : decode cX6_leastCover 30 = .ok (.if_icmp .ge 19, 3) := by decide +kernel
theorem dX6_leastCover_33 : decode cX6_leastCover 33 = .ok (.aload_n 0, 1) := by decide +kernel
theorem dX6_leastCover_34 : decode cX6_leastCover 34 = .ok (.iload 4, 2) := by decide +kernel
theorem dX6_leastCover_36 : decode cX6_leastCover 36 = .ok (.invokevirtual 60, 3) := by decide +kernel
theorem dX6_leastCover_39 : decode cX6_leastCover 39 = .ok (.iload_n 1, 1) := by decide +kernel
theorem dX6_leastCover_40 : decode cX6_leastCover 40 = .ok (.if_icmp .ne 9, 3) := by decide +kernel
theorem dX6_leastCover_43 : decode cX6_leastCover 43 = .ok (.iload 4, 2) := by decide +kernel
theorem dX6_leastCover_45 : decode cX6_leastCover 45 = .ok (.istore_n 2, 1) := by decide +kernel
theorem dX6_leastCover_46 : decode cX6_leastCover 46 = .ok (.iload 5, 2) := by decide +kernel
theorem dX6_leastCover_48 : decode cX6_leastCover 48 = .ok (.istore_n 3, 1) := by decide +kernel
theorem dX6_leastCover_49 : decode cX6_leastCover 49 = .ok (.iinc 4 1, 3) := by decide +kernel
theorem dX6_leastCover_52 : decode cX6_leastCover 52 = .ok (.goto (-43), 3) := by decide +kernel
theorem dX6_leastCover_55 : decode cX6_leastCover 55 = .ok (.iload_n 2, 1) := by decide +kernel
theorem dX6_leastCover_56 : decode cX6_leastCover 56 = .ok (.ireturn, 1) := by decide +kernel
theorem dX6_openInSome_0 : decode cX6_openInSome 0 = .ok (.iconst 0, 1) := by decide +kernel
theorem dX6_openInSome_1 : decode cX6_openInSome 1 = .ok (.istore_n 2, 1) := by decide +kernel
theorem dX6_openInSome_2 : decode cX6_openInSome 2 = .ok (.iconst 0, 1) := by decide +kernel
theorem dX6_openInSome_3 : decode cX6_openInSome 3 = .ok (.istore_n 3, 1) := by decide +kernel
theorem dX6_openInSome_4 : decode cX6_openInSome 4 = .ok (.iload_n 3, 1) := by decide +kernel
theorem dX6_openInSome_5 : decode cX6_openInSome 5 = .ok (.aload_n 0, 1) := by decide +kernel
theorem dX6_openInSome_6 : decode cX6_openInSome 6 = .ok (.getfield 18, 3) := by decide +kernel
theorem dX6_openInSome_9 : decode cX6_openInSome 9 = .ok (.if_icmp .ge 27, 3) := by decide +kernel
theorem dX6_openInSome_12 : decode cX6_openInSome 12 = .ok (.iload_n 1, 1) := by decide +kernel
theorem dX6_openInSome_13 : decode cX6_openInSome 13 = .ok (.iload_n 3, 1) := by decide +kernel
theorem dX6_openInSome_14 : decode cX6_openInSome 14 = .ok (.ishr, 1) := by decide +kernel
theorem dX6_openInSome_15 : decode cX6_openInSome 15 = .ok (.iconst 1, 1) := by decide +kernel
theorem dX6_openInSome_16 : decode cX6_openInSome 16 = .ok (.iand, 1) := by decide +kernel
theorem dX6_openInSome_17 : decode cX6_openInSome 17 = .ok (.iconst 1, 1) := by decide +kernel
theorem dX6_openInSome_18 : decode cX6_openInSome 18 = .ok (.if_icmp .ne 12, 3) := by decide +kernel
theorem dX6_openInSome_21 : decode cX6_openInSome 21 = .ok (.iload_n 2, 1) := by decide +kernel
theorem dX6_openInSome_22 : decode cX6_openInSome 22 = .ok (.aload_n 0, 1) := by decide +kernel
theorem dX6_openInSome_23 : decode cX6_openInSome 23 = .ok (.getfield 15, 3) := by decide +kernel
theorem dX6_openInSome_26 : decode cX6_openInSome 26 = .ok (.iload_n 3, 1) := by decide +kernel
theorem dX6_openInSome_27 : decode cX6_openInSome 27 = .ok (.iaload, 1) := by decide +kernel
theorem dX6_openInSome_28 : decode cX6_openInSome 28 = .ok (.ior, 1) := by decide +kernel
theorem dX6_openInSome_29 : decode cX6_openInSome 29 = .ok (.istore_n 2, 1) := by decide +kernel
theorem dX6_openInSome_30 : decode cX6_openInSome 30 = .ok (.iinc 3 1, 3) := by decide +kernel
theorem dX6_openInSome_33 : decode cX6_openInSome 33 = .ok (.goto (-29), 3) := by decide +kernel
theorem dX6_openInSome_36 : decode cX6_openInSome 36 = .ok (.iload_n 2, 1) := by decide +kernel
theorem dX6_openInSome_37 : decode cX6_openInSome 37 = .ok (.ireturn, 1) := by decide +kernel
theorem dX6_worstPerson_0 : decode cX6_worstPerson 0 = .ok (.bipush (-6), 2) := by decide +kernel
theorem dX6_worstPerson_2 : decode cX6_worstPerson 2 = .ok (.istore_n 2, 1) := by decide +kernel
theorem dX6_worstPerson_3 : decode cX6_worstPerson 3 = .ok (.iconst 0, 1) := by decide +kernel
theorem dX6_worstPerson_4 : decode cX6_worstPerson 4 = .ok (.istore_n 3, 1) := by decide +kernel
theorem dX6_worstPerson_5 : decode cX6_worstPerson 5 = .ok (.iconst 0, 1) := by decide +kernel
theorem dX6_worstPerson_6 : decode cX6_worstPerson 6 = .ok (.istore 4, 2) := by decide +kernel
theorem dX6_worstPerson_8 : decode cX6_worstPerson 8 = .ok (.iload 4, 2) := by decide +kernel
theorem dX6_worstPerson_10 : decode cX6_worstPerson 10 = .ok (.iload_n 1, 1) := by decide +kernel
theorem dX6_worstPerson_11 : decode cX6_worstPerson 11 = .ok (.if_icmp .ge 29, 3) := by decide +kernel
theorem dX6_worstPerson_14 : decode cX6_worstPerson 14 = .ok (.aload_n 0, 1) := by decide +kernel
theorem dX6_worstPerson_15 : decode cX6_worstPerson 15 = .ok (.iload 4, 2) := by decide +kernel
theorem dX6_worstPerson_17 : decode cX6_worstPerson 17 = .ok (.invokevirtual 63, 3) := by decide +kernel
theorem dX6_worstPerson_20 : decode cX6_worstPerson 20 = .ok (.istore 5, 2) := by decide +kernel
theorem dX6_worstPerson_22 : decode cX6_worstPerson 22 = .ok (.iload 5, 2) := by decide +kernel
theorem dX6_worstPerson_24 : decode cX6_worstPerson 24 = .ok (.iload_n 3, 1) := by decide +kernel
theorem dX6_worstPerson_25 : decode cX6_worstPerson 25 = .ok (.if_icmp .le 9, 3) := by decide +kernel
theorem dX6_worstPerson_28 : decode cX6_worstPerson 28 = .ok (.iload 4, 2) := by decide +kernel
theorem dX6_worstPerson_30 : decode cX6_worstPerson 30 = .ok (.istore_n 2, 1) := by decide +kernel
theorem dX6_worstPerson_31 : decode cX6_worstPerson 31 = .ok (.iload 5, 2) := by decide +kernel
theorem dX6_worstPerson_33 : decode cX6_worstPerson 33 = .ok (.istore_n 3, 1) := by decide +kernel
theorem dX6_worstPerson_34 : decode cX6_worstPerson 34 = .ok (.iinc 4 1, 3) := by decide +kernel
theorem dX6_worstPerson_37 : decode cX6_worstPerson 37 = .ok (.goto (-29), 3) := by decide +kernel
theorem dX6_worstPerson_40 : decode cX6_worstPerson 40 = .ok (.iload_n 2, 1) := by decide +kernel
theorem dX6_worstPerson_41 : decode cX6_worstPerson 41 = .ok (.ireturn, 1) := by decide +kernel
theorem dX6_timesBad_0 : decode cX6_timesBad 0 = .ok (.iconst 0, 1) := by decide +kernel
theorem dX6_timesBad_1 : decode cX6_timesBad 1 = .ok (.istore_n 2, 1) := by decide +kernel
theorem dX6_timesBad_2 : decode cX6_timesBad 2 = .ok (.iconst 0, 1) := by decide +kernel
theorem dX6_timesBad_3 : decode cX6_timesBad 3 = .ok (.istore_n 3, 1) := by decide +kernel
theorem dX6_timesBad_4 : decode cX6_timesBad 4 = .ok (.iload_n 3, 1) := by decide +kernel
theorem dX6_timesBad_5 : decode cX6_timesBad 5 = .ok (.aload_n 0, 1) := by decide +kernel
theorem dX6_timesBad_6 : decode cX6_timesBad 6 = .ok (.getfield 18, 3) := by decide +kernel
theorem dX6_timesBad_9 : decode cX6_timesBad 9 = .ok (.if_icmp .ge 21, 3) := by decide +kernel
theorem dX6_timesBad_12 : decode cX6_timesBad 12 = .ok (.aload_n 0, 1) := by decide +kernel
theorem dX6_timesBad_13 : decode cX6_timesBad 13 = .ok (.iload_n 3, 1) := by decide +kernel
theorem dX6_timesBad_14 : decode cX6_timesBad 14 = .ok (.iload_n 1, 1) := by decide +kernel
theorem dX6_timesBad_15 : decode cX6_timesBad 15 = .ok (.invokevirtual 50, 3) := by decide +kernel
theorem dX6_timesBad_18 : decode cX6_timesBad 18 = .ok (.ifCond .ne 6, 3) := by decide +kernel
theorem dX6_timesBad_21 : decode cX6_timesBad 21 = .ok (.iinc 2 1, 3) := by decide +kernel
theorem dX6_timesBad_24 : decode cX6_timesBad 24 = .ok (.iinc 3 1, 3) := by decide +kernel
theorem dX6_timesBad_27 : decode cX6_timesBad 27 = .ok (.goto (-23), 3) := by decide +kernel
theorem dX6_timesBad_30 : decode cX6_timesBad 30 = .ok (.iload_n 2, 1) := by decide +kernel
theorem dX6_timesBad_31 : decode cX6_timesBad 31 = .ok (.ireturn, 1) := by decide +kernel
theorem dX6_fewestLeft_0 : decode cX6_fewestLeft 0 = .ok (.aload_n 0, 1) := by decide +kernel
theorem dX6_fewestLeft_1 : decode cX6_fewestLeft 1 = .ok (.getfield 18, 3) := by decide +kernel
theorem dX6_fewestLeft_4 : decode cX6_fewestLeft 4 = .ok (.ifCond .ne 6, 3) := by decide +kernel
theorem dX6_fewestLeft_7 : decode cX6_fewestLeft 7 = .ok (.bipush (-6), 2) := by decide +kernel
theorem dX6_fewestLeft_9 : decode cX6_fewestLeft 9 = .ok (.ireturn, 1) := by decide +kernel
theorem dX6_fewestLeft_10 : decode cX6_fewestLeft 10 = .ok (.iconst 0, 1) := by decide +kernel
theorem dX6_fewestLeft_11 : decode cX6_fewestLeft 11 = .ok (.istore_n 2, 1) := by decide +kernel
theorem dX6_fewestLeft_12 : decode cX6_fewestLeft 12 = .ok (.iconst 0, 1) := by decide +kernel
theorem dX6_fewestLeft_13 : decode cX6_fewestLeft 13 = .ok (.istore_n 3, 1) := by decide +kernel
theorem dX6_fewestLeft_14 : decode cX6_fewestLeft 14 = .ok (.iconst 0, 1) := by decide +kernel
theorem dX6_fewestLeft_15 : decode cX6_fewestLeft 15 = .ok (.istore 4, 2) := by decide +kernel
theorem dX6_fewestLeft_17 : decode cX6_fewestLeft 17 = .ok (.iload 4, 2) := by decide +kernel
theorem dX6_fewestLeft_19 : decode cX6_fewestLeft 19 = .ok (.iload_n 1, 1) := by decide +kernel
theorem dX6_fewestLeft_20 : decode cX6_fewestLeft 20 = .ok (.if_icmp .ge 35, 3) := by decide +kernel
theorem dX6_fewestLeft_23 : decode cX6_fewestLeft 23 = .ok (.iload_n 3, 1) := by decide +kernel
theorem dX6_fewestLeft_24 : decode cX6_fewestLeft 24 = .ok (.iconst 1, 1) := by decide +kernel
theorem dX6_fewestLeft_25 : decode cX6_fewestLeft 25 = .ok (.iload 4, 2) := by decide +kernel
theorem dX6_fewestLeft_27 : decode cX6_fewestLeft 27 = .ok (.ishl, 1) := by decide +kernel
theorem dX6_fewestLeft_28 : decode cX6_fewestLeft 28 = .ok (.ior, 1) := by decide +kernel
theorem dX6_fewestLeft_29 : decode cX6_fewestLeft 29 = .ok (.istore_n 3, 1) := by decide +kernel
theorem dX6_fewestLeft_30 : decode cX6_fewestLeft 30 = .ok (.aload_n 0, 1) := by decide +kernel
theorem dX6_fewestLeft_31 : decode cX6_fewestLeft 31 = .ok (.iload 4, 2) := by decide +kernel
theorem dX6_fewestLeft_33 : decode cX6_fewestLeft 33 = .ok (.invokevirtual 66, 3) := by decide +kernel
theorem dX6_fewestLeft_36 : decode cX6_fewestLeft 36 = .ok (.ifCond .ne 13, 3) := by decide +kernel
theorem dX6_fewestLeft_39 : decode cX6_fewestLeft 39 = .ok (.iload_n 2, 1) := by decide +kernel
theorem dX6_fewestLeft_40 : decode cX6_fewestLeft 40 = .ok (.aload_n 0, 1) := by decide +kernel
theorem dX6_fewestLeft_41 : decode cX6_fewestLeft 41 = .ok (.iload_n 3, 1) := by decide +kernel
theorem dX6_fewestLeft_42 : decode cX6_fewestLeft 42 = .ok (.invokevirtual 70, 3) := by decide +kernel
theorem dX6_fewestLeft_45 : decode cX6_fewestLeft 45 = .ok (.iadd, 1) := by decide +kernel
theorem dX6_fewestLeft_46 : decode cX6_fewestLeft 46 = .ok (.istore_n 2, 1) := by decide +kernel
theorem dX6_fewestLeft_47 : decode cX6_fewestLeft 47 = .ok (.iconst 0, 1) := by decide +kernel
theorem dX6_fewestLeft_48 : decode cX6_fewestLeft 48 = .ok (.istore_n 3, 1) := by decide +kernel
theorem dX6_fewestLeft_49 : decode cX6_fewestLeft 49 = .ok (.iinc 4 1, 3) := by decide +kernel
theorem dX6_fewestLeft_52 : decode cX6_fewestLeft 52 = .ok (.goto (-35), 3) := by decide +kernel
theorem dX6_fewestLeft_55 : decode cX6_fewestLeft 55 = .ok (.iload_n 2, 1) := by decide +kernel
theorem dX6_fewestLeft_56 : decode cX6_fewestLeft 56 = .ok (.ireturn, 1) := by decide +kernel
theorem dX6_fewestBad_0 : decode cX6_fewestBad 0 = .ok (.bipush 8, 2) := by decide +kernel
theorem dX6_fewestBad_2 : decode cX6_fewestBad 2 = .ok (.istore_n 2, 1) := by decide +kernel
theorem dX6_fewestBad_3 : decode cX6_fewestBad 3 = .ok (.iconst 0, 1) := by decide +kernel
theorem dX6_fewestBad_4 : decode cX6_fewestBad 4 = .ok (.istore_n 3, 1) := by decide +kernel
theorem dX6_fewestBad_5 : decode cX6_fewestBad 5 = .ok (.iload_n 3, 1) := by decide +kernel
theorem dX6_fewestBad_6 : decode cX6_fewestBad 6 = .ok (.aload_n 0, 1) := by decide +kernel
theorem dX6_fewestBad_7 : decode cX6_fewestBad 7 = .ok (.getfield 18, 3) := by decide +kernel
theorem dX6_fewestBad_10 : decode cX6_fewestBad 10 = .ok (.if_icmp .ge 20, 3) := by decide +kernel
theorem dX6_fewestBad_13 : decode cX6_fewestBad 13 = .ok (.iload_n 2, 1) := by decide +kernel
theorem dX6_fewestBad_14 : decode cX6_fewestBad 14 = .ok (.aload_n 0, 1) := by decide +kernel
theorem dX6_fewestBad_15 : decode cX6_fewestBad 15 = .ok (.iload_n 3, 1) := by decide +kernel
theorem dX6_fewestBad_16 : decode cX6_fewestBad 16 = .ok (.iload_n 1, 1) := by decide +kernel
theorem dX6_fewestBad_17 : decode cX6_fewestBad 17 = .ok (.invokevirtual 54, 3) := by decide +kernel
theorem dX6_fewestBad_20 : decode cX6_fewestBad 20 = .ok (.invokestatic 73, 3) := by decide +kernel
theorem dX6_fewestBad_23 : decode cX6_fewestBad 23 = .ok (.istore_n 2, 1) := by decide +kernel
theorem dX6_fewestBad_24 : decode cX6_fewestBad 24 = .ok (.iinc 3 1, 3) := by decide +kernel
theorem dX6_fewestBad_27 : decode cX6_fewestBad 27 = .ok (.goto (-22), 3) := by decide +kernel
theorem dX6_fewestBad_30 : decode cX6_fewestBad 30 = .ok (.iload_n 2, 1) := by decide +kernel
theorem dX6_fewestBad_31 : decode cX6_fewestBad 31 = .ok (.ireturn, 1) := by decide +kernel
theorem dX7_init_0 : decode cX7_init 0 = .ok (.aload_n 0, 1) := by decide +kernel
theorem dX7_init_1 : decode cX7_init 1 = .ok (.invokespecial 3, 3) := by decide +kernel
theorem dX7_init_4 : decode cX7_init 4 = .ok (.aload_n 0, 1) := by decide +kernel
theorem dX7_init_5 : decode cX7_init 5 = .ok (.iconst 2, 1) := by decide +kernel
theorem dX7_init_6 : decode cX7_init 6 = .ok (.putfield 9, 3) := by decide +kernel
theorem dX7_init_9 : decode cX7_init 9 = .ok (.aload_n 0, 1) := by decide +kernel
theorem dX7_init_10 : decode cX7_init 10 = .ok (.iconst 3, 1) := by decide +kernel
theorem dX7_init_11 : decode cX7_init 11 = .ok (.putfield 15, 3) := by decide +kernel
theorem dX7_init_14 : decode cX7_init 14 = .ok (.aload_n 0, 1) := by decide +kernel
theorem dX7_init_15 : decode cX7_init 15 = .ok (.bipush 10, 2) := by decide +kernel
theorem dX7_init_17 : decode cX7_init 17 = .ok (.putfield 18, 3) := by decide +kernel
theorem dX7_init_20 : decode cX7_init 20 = .ok (.aload_n 0, 1) := by decide +kernel
theorem dX7_init_21 : decode cX7_init 21 = .ok (.bipush 8, 2) := by decide +kernel
theorem dX7_init_23 : decode cX7_init 23 = .ok (.newarray .int, 2) := by decide +kernel
theorem dX7_init_25 : decode cX7_init 25 = .ok (.putfield 21, 3) := by decide +kernel
theorem dX7_init_28 : decode cX7_init 28 = .ok (.aload_n 0, 1) := by decide +kernel
theorem dX7_init_29 : decode cX7_init 29 = .ok (.bipush 64, 2) := by decide +kernel
theorem dX7_init_31 : decode cX7_init 31 = .ok (.newarray .int, 2) := by decide +kernel
theorem dX7_init_33 : decode cX7_init 33 = .ok (.putfield 25, 3) := by decide +kernel
theorem dX7_init_36 : decode cX7_init 36 = .ok (.aload_n 0, 1) := by decide +kernel
theorem dX7_init_37 : decode cX7_init 37 = .ok (.invokevirtual 28, 3) := by decide +kernel
theorem dX7_init_40 : decode cX7_init 40 = .ok (.return_, 1) := by decide +kernel
theorem dX7_startPeople_0 : decode cX7_startPeople 0 = .ok (.iconst 0, 1) := by decide +kernel
theorem dX7_startPeople_1 : decode cX7_startPeople 1 = .ok (.istore_n 1, 1) := by decide +kernel
theorem dX7_startPeople_2 : decode cX7_startPeople 2 = .ok (.iload_n 1, 1) := by decide +kernel
theorem dX7_startPeople_3 : decode cX7_startPeople 3 = .ok (.bipush 8, 2) := by decide +kernel
theorem dX7_startPeople_5 : decode cX7_startPeople 5 = .ok (.if_icmp .ge 18, 3) := by decide +kernel
theorem dX7_startPeople_8 : decode cX7_startPeople 8 = .ok (.aload_n 0, 1) := by decide +kernel
theorem dX7_startPeople_9 : decode cX7_startPeople 9 = .ok (.getfield 21, 3) := by decide +kernel
theorem dX7_startPeople_12 : decode cX7_startPeople 12 = .ok (.iload_n 1, 1) := by decide +kernel
theorem dX7_startPeople_13 : decode cX7_startPeople 13 = .ok (.sipush 170, 3) := by decide +kernel
theorem dX7_startPeople_16 : decode cX7_startPeople 16 = .ok (.iastore, 1) := by decide +kernel
theorem dX7_startPeople_17 : decode cX7_startPeople 17 = .ok (.iinc 1 1, 3) := by decide +kernel
theorem dX7_startPeople_20 : decode cX7_startPeople 20 = .ok (.goto (-18), 3) := by decide +kernel
theorem dX7_startPeople_23 : decode cX7_startPeople 23 = .ok (.iconst 0, 1) := by decide +kernel
theorem dX7_startPeople_24 : decode cX7_startPeople 24 = .ok (.istore_n 1, 1) := by decide +kernel
theorem dX7_startPeople_25 : decode cX7_startPeople 25 = .ok (.iload_n 1, 1) := by decide +kernel
theorem dX7_startPeople_26 : decode cX7_startPeople 26 = .ok (.bipush 64, 2) := by decide +kernel
theorem dX7_startPeople_28 : decode cX7_startPeople 28 = .ok (.if_icmp .ge 16, 3) := by decide +kernel
theorem dX7_startPeople_31 : decode cX7_startPeople 31 = .ok (.aload_n 0, 1) := by decide +kernel
theorem dX7_startPeople_32 : decode cX7_startPeople 32 = .ok (.getfield 25, 3) := by decide +kernel
theorem dX7_startPeople_35 : decode cX7_startPeople 35 = .ok (.iload_n 1, 1) := by decide +kernel
theorem dX7_startPeople_36 : decode cX7_startPeople 36 = .ok (.iconst 0, 1) := by decide +kernel
theorem dX7_startPeople_37 : decode cX7_startPeople 37 = .ok (.iastore, 1) := by decide +kernel
theorem dX7_startPeople_38 : decode cX7_startPeople 38 = .ok (.iinc 1 1, 3) := by decide +kernel
theorem dX7_startPeople_41 : decode cX7_startPeople 41 = .ok (.goto (-16), 3) := by decide +kernel
theorem dX7_startPeople_44 : decode cX7_startPeople 44 = .ok (.aload_n 0, 1) := by decide +kernel
theorem dX7_startPeople_45 : decode cX7_startPeople 45 = .ok (.iconst 1, 1) := by decide +kernel
theorem dX7_startPeople_46 : decode cX7_startPeople 46 = .ok (.putfield 31, 3) := by decide +kernel
theorem dX7_startPeople_49 : decode cX7_startPeople 49 = .ok (.return_, 1) := by decide +kernel
theorem dX7_copyFrom_0 : decode cX7_copyFrom 0 = .ok (.aload_n 0, 1) := by decide +kernel
theorem dX7_copyFrom_1 : decode cX7_copyFrom 1 = .ok (.aload_n 1, 1) := by decide +kernel
theorem dX7_copyFrom_2 : decode cX7_copyFrom 2 = .ok (.getfield 9, 3) := by decide +kernel
theorem dX7_copyFrom_5 : decode cX7_copyFrom 5 = .ok (.putfield 9, 3) := by decide +kernel
theorem dX7_copyFrom_8 : decode cX7_copyFrom 8 = .ok (.aload_n 0, 1) := by decide +kernel
theorem dX7_copyFrom_9 : decode cX7_copyFrom 9 = .ok (.aload_n 1, 1) := by decide +kernel
theorem dX7_copyFrom_10 : decode cX7_copyFrom 10 = .ok (.getfield 15, 3) := by decide +kernel
theorem dX7_copyFrom_13 : decode cX7_copyFrom 13 = .ok (.putfield 15, 3) := by decide +kernel
theorem dX7_copyFrom_16 : decode cX7_copyFrom 16 = .ok (.aload_n 0, 1) := by decide +kernel
theorem dX7_copyFrom_17 : decode cX7_copyFrom 17 = .ok (.aload_n 1, 1) := by decide +kernel
theorem dX7_copyFrom_18 : decode cX7_copyFrom 18 = .ok (.getfield 18, 3) := by decide +kernel
theorem dX7_copyFrom_21 : decode cX7_copyFrom 21 = .ok (.putfield 18, 3) := by decide +kernel
theorem dX7_copyFrom_24 : decode cX7_copyFrom 24 = .ok (.aload_n 1, 1) := by decide +kernel
theorem dX7_copyFrom_25 : decode cX7_copyFrom 25 = .ok (.getfield 21, 3) := by decide +kernel
theorem dX7_copyFrom_28 : decode cX7_copyFrom 28 = .ok (.iconst 0, 1) := by decide +kernel
theorem dX7_copyFrom_29 : decode cX7_copyFrom 29 = .ok (.aload_n 0, 1) := by decide +kernel
theorem dX7_copyFrom_30 : decode cX7_copyFrom 30 = .ok (.getfield 21, 3) := by decide +kernel
theorem dX7_copyFrom_33 : decode cX7_copyFrom 33 = .ok (.iconst 0, 1) := by decide +kernel
theorem dX7_copyFrom_34 : decode cX7_copyFrom 34 = .ok (.bipush 8, 2) := by decide +kernel
theorem dX7_copyFrom_36 : decode cX7_copyFrom 36 = .ok (.invokestatic 35, 3) := by decide +kernel
theorem dX7_copyFrom_39 : decode cX7_copyFrom 39 = .ok (.aload_n 1, 1) := by decide +kernel
theorem dX7_copyFrom_40 : decode cX7_copyFrom 40 = .ok (.getfield 25, 3) := by decide +kernel
theorem dX7_copyFrom_43 : decode cX7_copyFrom 43 = .ok (.iconst 0, 1) := by decide +kernel
theorem dX7_copyFrom_44 : decode cX7_copyFrom 44 = .ok (.aload_n 0, 1) := by decide +kernel
theorem dX7_copyFrom_45 : decode cX7_copyFrom 45 = .ok (.getfield 25, 3) := by decide +kernel
theorem dX7_copyFrom_48 : decode cX7_copyFrom 48 = .ok (.iconst 0, 1) := by decide +kernel
theorem dX7_copyFrom_49 : decode cX7_copyFrom 49 = .ok (.bipush 64, 2) := by decide +kernel
theorem dX7_copyFrom_51 : decode cX7_copyFrom 51 = .ok (.invokestatic 35, 3) := by decide +kernel
theorem dX7_copyFrom_54 : decode cX7_copyFrom 54 = .ok (.aload_n 0, 1) := by decide +kernel
theorem dX7_copyFrom_55 : decode cX7_copyFrom 55 = .ok (.iconst 1, 1) := by decide +kernel
theorem dX7_copyFrom_56 : decode cX7_copyFrom 56 = .ok (.putfield 31, 3) := by decide +kernel
theorem dX7_copyFrom_59 : decode cX7_copyFrom 59 = .ok (.return_, 1) := by decide +kernel
theorem dX7_places_0 : decode cX7_places 0 = .ok (.aload_n 0, 1) := by decide +kernel
theorem dX7_places_1 : decode cX7_places 1 = .ok (.getfield 9, 3) := by decide +kernel
theorem dX7_places_4 : decode cX7_places 4 = .ok (.aload_n 0, 1) := by decide +kernel
theorem dX7_places_5 : decode cX7_places 5 = .ok (.getfield 15, 3) := by decide +kernel
theorem dX7_places_8 : decode cX7_places 8 = .ok (.imul, 1) := by decide +kernel
theorem dX7_places_9 : decode cX7_places 9 = .ok (.ireturn, 1) := by decide +kernel
theorem dX7_tallOf_0 : decode cX7_tallOf 0 = .ok (.aload_n 0, 1) := by decide +kernel
theorem dX7_tallOf_1 : decode cX7_tallOf 1 = .ok (.getfield 21, 3) := by decide +kernel
theorem dX7_tallOf_4 : decode cX7_tallOf 4 = .ok (.iload_n 1, 1) := by decide +kernel
theorem dX7_tallOf_5 : decode cX7_tallOf 5 = .ok (.iaload, 1) := by decide +kernel
theorem dX7_tallOf_6 : decode cX7_tallOf 6 = .ok (.ireturn, 1) := by decide +kernel
theorem dX7_build_0 : decode cX7_build 0 = .ok (.aload_n 0, 1) := by decide +kernel
theorem dX7_build_1 : decode cX7_build 1 = .ok (.iload_n 1, 1) := by decide +kernel
theorem dX7_build_2 : decode cX7_build 2 = .ok (.putfield 9, 3) := by decide +kernel
theorem dX7_build_5 : decode cX7_build 5 = .ok (.aload_n 0, 1) := by decide +kernel
theorem dX7_build_6 : decode cX7_build 6 = .ok (.iload_n 2, 1) := by decide +kernel
theorem dX7_build_7 : decode cX7_build 7 = .ok (.putfield 15, 3) := by decide +kernel
theorem dX7_build_10 : decode cX7_build 10 = .ok (.aload_n 0, 1) := by decide +kernel
theorem dX7_build_11 : decode cX7_build 11 = .ok (.iconst 1, 1) := by decide +kernel
theorem dX7_build_12 : decode cX7_build 12 = .ok (.putfield 31, 3) := by decide +kernel
theorem dX7_build_15 : decode cX7_build 15 = .ok (.aload_n 0, 1) := by decide +kernel
theorem dX7_build_16 : decode cX7_build 16 = .ok (.invokevirtual 41, 3) := by decide +kernel
theorem dX7_build_19 : decode cX7_build 19 = .ok (.ireturn, 1) := by decide +kernel
theorem dX7_changeRise_0 : decode cX7_changeRise 0 = .ok (.aload_n 0, 1) := by decide +kernel
theorem dX7_changeRise_1 : decode cX7_changeRise 1 = .ok (.getfield 18, 3) := by decide +kernel
theorem dX7_changeRise_4 : decode cX7_changeRise 4 = .ok (.istore_n 2, 1) := by decide +kernel
theorem dX7_changeRise_5 : decode cX7_changeRise 5 = .ok (.aload_n 0, 1) := by decide +kernel
theorem dX7_changeRise_6 : decode cX7_changeRise 6 = .ok (.iload_n 1, 1) := by decide +kernel
theorem dX7_changeRise_7 : decode cX7_changeRise 7 = .ok (.putfield 18, 3) := by decide +kernel
theorem dX7_changeRise_10 : decode cX7_changeRise 10 = .ok (.aload_n 0, 1) := by decide +kernel
theorem dX7_changeRise_11 : decode cX7_changeRise 11 = .ok (.iconst 1, 1) := by decide +kernel
theorem dX7_changeRise_12 : decode cX7_changeRise 12 = .ok (.putfield 31, 3) := by decide +kernel
theorem dX7_changeRise_15 : decode cX7_changeRise 15 = .ok (.iload_n 2, 1) := by decide +kernel
theorem dX7_changeRise_16 : decode cX7_changeRise 16 = .ok (.ireturn, 1) := by decide +kernel
theorem dX7_changeTall_0 : decode cX7_changeTall 0 = .ok (.aload_n 0, 1) := by decide +kernel
theorem dX7_changeTall_1 : decode cX7_changeTall 1 = .ok (.getfield 21, 3) := by decide +kernel
theorem dX7_changeTall_4 : decode cX7_changeTall 4 = .ok (.iload_n 1, 1) := by decide +kernel
theorem dX7_changeTall_5 : decode cX7_changeTall 5 = .ok (.iaload, 1) := by decide +kernel
theorem dX7_changeTall_6 : decode cX7_changeTall 6 = .ok (.istore_n 3, 1) := by decide +kernel
theorem dX7_changeTall_7 : decode cX7_changeTall 7 = .ok (.aload_n 0, 1) := by decide +kernel
theorem dX7_changeTall_8 : decode cX7_changeTall 8 = .ok (.getfield 21, 3) := by decide +kernel
theorem dX7_changeTall_11 : decode cX7_changeTall 11 = .ok (.iload_n 1, 1) := by decide +kernel
theorem dX7_changeTall_12 : decode cX7_changeTall 12 = .ok (.iload_n 2, 1) := by decide +kernel
theorem dX7_changeTall_13 : decode cX7_changeTall 13 = .ok (.iastore, 1) := by decide +kernel
theorem dX7_changeTall_14 : decode cX7_changeTall 14 = .ok (.aload_n 0, 1) := by decide +kernel
theorem dX7_changeTall_15 : decode cX7_changeTall 15 = .ok (.iconst 1, 1) := by decide +kernel
theorem dX7_changeTall_16 : decode cX7_changeTall 16 = .ok (.putfield 31, 3) := by decide +kernel
theorem dX7_changeTall_19 : decode cX7_changeTall 19 = .ok (.iload_n 3, 1) := by decide +kernel
theorem dX7_changeTall_20 : decode cX7_changeTall 20 = .ok (.ireturn, 1) := by decide +kernel
theorem dX7_changePair_0 : decode cX7_changePair 0 = .ok (.aload_n 0, 1) := by decide +kernel
theorem dX7_changePair_1 : decode cX7_changePair 1 = .ok (.getfield 25, 3) := by decide +kernel
theorem dX7_changePair_4 : decode cX7_changePair 4 = .ok (.iload_n 1, 1) := by decide +kernel
theorem dX7_changePair_5 : decode cX7_changePair 5 = .ok (.bipush 8, 2) := by decide +kernel
theorem dX7_changePair_7 : decode cX7_changePair 7 = .ok (.imul, 1) := by decide +kernel
theorem dX7_changePair_8 : decode cX7_changePair 8 = .ok (.iload_n 2, 1) := by decide +kernel
theorem dX7_changePair_9 : decode cX7_changePair 9 = .ok (.iadd, 1) := by decide +kernel
theorem dX7_changePair_10 : decode cX7_changePair 10 = .ok (.iaload, 1) := by decide +kernel
theorem dX7_changePair_11 : decode cX7_changePair 11 = .ok (.istore 4, 2) := by decide +kernel
theorem dX7_changePair_13 : decode cX7_changePair 13 = .ok (.aload_n 0, 1) := by decide +kernel
theorem dX7_changePair_14 : decode cX7_changePair 14 = .ok (.getfield 25, 3) := by decide +kernel
theorem dX7_changePair_17 : decode cX7_changePair 17 = .ok (.iload_n 1, 1) := by decide +kernel
theorem dX7_changePair_18 : decode cX7_changePair 18 = .ok (.bipush 8, 2) := by decide +kernel
theorem dX7_changePair_20 : decode cX7_changePair 20 = .ok (.imul, 1) := by decide +kernel
theorem dX7_changePair_21 : decode cX7_changePair 21 = .ok (.iload_n 2, 1) := by decide +kernel
theorem dX7_changePair_22 : decode cX7_changePair 22 = .ok (.iadd, 1) := by decide +kernel
theorem dX7_changePair_23 : decode cX7_changePair 23 = .ok (.iload_n 3, 1) := by decide +kernel
theorem dX7_changePair_24 : decode cX7_changePair 24 = .ok (.iastore, 1) := by decide +kernel
theorem dX7_changePair_25 : decode cX7_changePair 25 = .ok (.aload_n 0, 1) := by decide +kernel
theorem dX7_changePair_26 : decode cX7_changePair 26 = .ok (.getfield 25, 3) := by decide +kernel
theorem dX7_changePair_29 : decode cX7_changePair 29 = .ok (.iload_n 2, 1) := by decide +kernel
theorem dX7_changePair_30 : decode cX7_changePair 30 = .ok (.bipush 8, 2) := by decide +kernel
theorem dX7_changePair_32 : decode cX7_changePair 32 = .ok (.imul, 1) := by decide +kernel
theorem dX7_changePair_33 : decode cX7_changePair 33 = .ok (.iload_n 1, 1) := by decide +kernel
theorem dX7_changePair_34 : decode cX7_changePair 34 = .ok (.iadd, 1) := by decide +kernel
theorem dX7_changePair_35 : decode cX7_changePair 35 = .ok (.iload_n 3, 1) := by decide +kernel
theorem dX7_changePair_36 : decode cX7_changePair 36 = .ok (.iastore, 1) := by decide +kernel
theorem dX7_changePair_37 : decode cX7_changePair 37 = .ok (.aload_n 0, 1) := by decide +kernel
theorem dX7_changePair_38 : decode cX7_changePair 38 = .ok (.iconst 1, 1) := by decide +kernel
theorem dX7_changePair_39 : decode cX7_changePair 39 = .ok (.putfield 31, 3) := by decide +kernel
theorem dX7_changePair_42 : decode cX7_changePair 42 = .ok (.iload 4, 2) := by decide +kernel
theorem dX7_changePair_44 : decode cX7_changePair 44 = .ok (.ireturn, 1) := by decide +kernel
theorem dX7_firstWrong_0 : decode cX7_firstWrong 0 = .ok (.iconst 0, 1) := by decide +kernel
theorem dX7_firstWrong_1 : decode cX7_firstWrong 1 = .ok (.istore_n 3, 1) := by decide +kernel
theorem dX7_firstWrong_2 : decode cX7_firstWrong 2 = .ok (.iload_n 3, 1) := by decide +kernel
theorem dX7_firstWrong_3 : decode cX7_firstWrong 3 = .ok (.iload_n 2, 1) := by decide +kernel
theorem dX7_firstWrong_4 : decode cX7_firstWrong 4 = .ok (.if_icmp .ge 21, 3) := by decide +kernel
theorem dX7_firstWrong_7 : decode cX7_firstWrong 7 = .ok (.aload_n 0, 1) := by decide +kernel
theorem dX7_firstWrong_8 : decode cX7_firstWrong 8 = .ok (.iload_n 3, 1) := by decide +kernel
theorem dX7_firstWrong_9 : decode cX7_firstWrong 9 = .ok (.aload_n 1, 1) := by decide +kernel
theorem dX7_firstWrong_10 : decode cX7_firstWrong 10 = .ok (.iload_n 2, 1) := by decide +kernel
theorem dX7_firstWrong_11 : decode cX7_firstWrong 11 = .ok (.invokevirtual 45, 3) := by decide +kernel
theorem dX7_firstWrong_14 : decode cX7_firstWrong 14 = .ok (.ifCond .eq 5, 3) := by decide +kernel
theorem dX7_firstWrong_17 : decode cX7_firstWrong 17 = .ok (.iload_n 3, 1) := by decide +kernel
theorem dX7_firstWrong_18 : decode cX7_firstWrong 18 = .ok (.ireturn, 1) := by decide +kernel
theorem dX7_firstWrong_19 : decode cX7_firstWrong 19 = .ok (.iinc 3 1, 3) := by decide +kernel
theorem dX7_firstWrong_22 : decode cX7_firstWrong 22 = .ok (.goto (-20), 3) := by decide +kernel
theorem dX7_firstWrong_25 : decode cX7_firstWrong 25 = .ok (.bipush (-6), 2) := by decide +kernel
theorem dX7_firstWrong_27 : decode cX7_firstWrong 27 = .ok (.ireturn, 1) := by decide +kernel
theorem dX7_wrongFor_0 : decode cX7_wrongFor 0 = .ok (.iconst 0, 1) := by decide +kernel
theorem dX7_wrongFor_1 : decode cX7_wrongFor 1 = .ok (.istore 4, 2) := by decide +kernel
theorem dX7_wrongFor_3 : decode cX7_wrongFor 3 = .ok (.iconst 0, 1) := by decide +kernel
theorem dX7_wrongFor_4 : decode cX7_wrongFor 4 = .ok (.istore 5, 2) := by decide +kernel
theorem dX7_wrongFor_6 : decode cX7_wrongFor 6 = .ok (.iload 5, 2) := by decide +kernel
theorem dX7_wrongFor_8 : decode cX7_wrongFor 8 = .ok (.iload_n 3, 1) := by decide +kernel
theorem dX7_wrongFor_9 : decode cX7_wrongFor 9 = .ok (.if_icmp .ge 62, 3) := by decide +kernel
theorem dX7_wrongFor_12 : decode cX7_wrongFor 12 = .ok (.iload 5, 2) := by decide +kernel
theorem dX7_wrongFor_14 : decode cX7_wrongFor 14 = .ok (.aload_n 2, 1) := by decide +kernel
theorem dX7_wrongFor_15 : decode cX7_wrongFor 15 = .ok (.arraylength, 1) := by decide +kernel
theorem dX7_wrongFor_16 : decode cX7_wrongFor 16 = .ok (.if_icmp .ge 55, 3) := by decide +kernel
theorem dX7_wrongFor_19 : decode cX7_wrongFor 19 = .ok (.iload 5, 2) := by decide +kernel
theorem dX7_wrongFor_21 : decode cX7_wrongFor 21 = .ok (.iload_n 1, 1) := by decide +kernel
theorem dX7_wrongFor_22 : decode cX7_wrongFor 22 = .ok (.if_icmp .ne 6, 3) := by decide +kernel
theorem dX7_wrongFor_25 : decode cX7_wrongFor 25 = .ok (.goto 40, 3) := by decide +kernel
theorem dX7_wrongFor_28 : decode cX7_wrongFor 28 = .ok (.aload_n 0, 1) := by decide +kernel
theorem dX7_wrongFor_29 : decode cX7_wrongFor 29 = .ok (.iload_n 1, 1) := by decide +kernel
theorem dX7_wrongFor_30 : decode cX7_wrongFor 30 = .ok (.aload_n 2, 1) := by decide +kernel
theorem dX7_wrongFor_31 : decode cX7_wrongFor 31 = .ok (.iload_n 1, 1) := by decide +kernel
theorem dX7_wrongFor_32 : decode cX7_wrongFor 32 = .ok (.iaload, 1) := by decide +kernel
theorem dX7_wrongFor_33 : decode cX7_wrongFor 33 = .ok (.iload 5, 2) := by decide +kernel
theorem dX7_wrongFor_35 : decode cX7_wrongFor 35 = .ok (.aload_n 2, 1) := by decide +kernel
theorem dX7_wrongFor_36 : decode cX7_wrongFor 36 = .ok (.iload 5, 2) := by decide +kernel
theorem dX7_wrongFor_38 : decode cX7_wrongFor 38 = .ok (.iaload, 1) := by decide +kernel
theorem dX7_wrongFor_39 : decode cX7_wrongFor 39 = .ok (.invokevirtual 49, 3) := by decide +kernel
theorem dX7_wrongFor_42 : decode cX7_wrongFor 42 = .ok (.istore 6, 2) := by decide +kernel
theorem dX7_wrongFor_44 : decode cX7_wrongFor 44 = .ok (.iload 6, 2) := by decide +kernel
theorem dX7_wrongFor_46 : decode cX7_wrongFor 46 = .ok (.ifCond .eq 19, 3) := by decide +kernel
theorem dX7_wrongFor_49 : decode cX7_wrongFor 49 = .ok (.iload 4, 2) := by decide +kernel
theorem dX7_wrongFor_51 : decode cX7_wrongFor 51 = .ok (.ifCond .eq 10, 3) := by decide +kernel
theorem dX7_wrongFor_54 : decode cX7_wrongFor 54 = .ok (.iload 6, 2) := by decide +kernel
theorem dX7_wrongFor_56 : decode cX7_wrongFor 56 = .ok (.iload 4, 2) := by decide +kernel
theorem dX7_wrongFor_58 : decode cX7_wrongFor 58 = .ok (.if_icmp .ge 7, 3) := by decide +kernel
theorem dX7_wrongFor_61 : decode cX7_wrongFor 61 = .ok (.iload 6, 2) := by decide +kernel
theorem dX7_wrongFor_63 : decode cX7_wrongFor 63 = .ok (.istore 4, 2) := by decide +kernel
theorem dX7_wrongFor_65 : decode cX7_wrongFor 65 = .ok (.iinc 5 1, 3) := by decide +kernel
theorem dX7_wrongFor_68 : decode cX7_wrongFor 68 = .ok (.goto (-62), 3) := by decide +kernel
theorem dX7_wrongFor_71 : decode cX7_wrongFor 71 = .ok (.iload 4, 2) := by decide +kernel
theorem dX7_wrongFor_73 : decode cX7_wrongFor 73 = .ok (.ireturn, 1) := by decide +kernel
theorem dX7_wrongBetween_0 : decode cX7_wrongBetween 0 = .ok (.aload_n 0, 1) := by decide +kernel
theorem dX7_wrongBetween_1 : decode cX7_wrongBetween 1 = .ok (.iload_n 1, 1) := by decide +kernel
theorem dX7_wrongBetween_2 : decode cX7_wrongBetween 2 = .ok (.iload_n 2, 1) := by decide +kernel
theorem dX7_wrongBetween_3 : decode cX7_wrongBetween 3 = .ok (.iload_n 3, 1) := by decide +kernel
theorem dX7_wrongBetween_4 : decode cX7_wrongBetween 4 = .ok (.iload 4, 2) := by decide +kernel
theorem dX7_wrongBetween_6 : decode cX7_wrongBetween 6 = .ok (.invokevirtual 53, 3) := by decide +kernel
theorem dX7_wrongBetween_9 : decode cX7_wrongBetween 9 = .ok (.ifCond .eq 5, 3) := by decide +kernel
theorem dX7_wrongBetween_12 : decode cX7_wrongBetween 12 = .ok (.iconst 1, 1) := by decide +kernel
theorem dX7_wrongBetween_13 : decode cX7_wrongBetween 13 = .ok (.ireturn, 1) := by decide +kernel
theorem dX7_wrongBetween_14 : decode cX7_wrongBetween 14 = .ok (.aload_n 0, 1) := by decide +kernel
theorem dX7_wrongBetween_15 : decode cX7_wrongBetween 15 = .ok (.getfield 25, 3) := by decide +kernel
theorem dX7_wrongBetween_18 : decode cX7_wrongBetween 18 = .ok (.iload_n 1, 1) := by decide +kernel
theorem dX7_wrongBetween_19 : decode cX7_wrongBetween 19 = .ok (.bipush 8, 2) := by decide +kernel
theorem dX7_wrongBetween_21 : decode cX7_wrongBetween 21 = .ok (.imul, 1) := by decide +kernel
theorem dX7_wrongBetween_22 : decode cX7_wrongBetween 22 = .ok (.iload_n 3, 1) := by decide +kernel
theorem dX7_wrongBetween_23 : decode cX7_wrongBetween 23 = .ok (.iadd, 1) := by decide +kernel
theorem dX7_wrongBetween_24 : decode cX7_wrongBetween 24 = .ok (.iaload, 1) := by decide +kernel
theorem dX7_wrongBetween_25 : decode cX7_wrongBetween 25 = .ok (.istore 5, 2) := by decide +kernel
theorem dX7_wrongBetween_27 : decode cX7_wrongBetween 27 = .ok (.iload 5, 2) := by decide +kernel
theorem dX7_wrongBetween_29 : decode cX7_wrongBetween 29 = .ok (.ifCond .ne 5, 3) := by decide +kernel
theorem dX7_wrongBetween_32 : decode cX7_wrongBetween 32 = .ok (.iconst 0, 1) := by decide +kernel
theorem dX7_wrongBetween_33 : decode cX7_wrongBetween 33 = .ok (.ireturn, 1) := by decide +kernel
theorem dX7_wrongBetween_34 : decode cX7_wrongBetween 34 = .ok (.aload_n 0, 1) := by decide +kernel
theorem dX7_wrongBetween_35 : decode cX7_wrongBetween 35 = .ok (.iload_n 2, 1) := by decide +kernel
theorem dX7_wrongBetween_36 : decode cX7_wrongBetween 36 = .ok (.iload 4, 2) := by decide +kernel
theorem dX7_wrongBetween_38 : decode cX7_wrongBetween 38 = .ok (.invokevirtual 57, 3) := by decide +kernel
theorem dX7_wrongBetween_41 : decode cX7_wrongBetween 41 = .ok (.istore 6, 2) := by decide +kernel
theorem dX7_wrongBetween_43 : decode cX7_wrongBetween 43 = .ok (.iload 5, 2) := by decide +kernel
theorem dX7_wrongBetween_45 : decode cX7_wrongBetween 45 = .ok (.iconst 1, 1) := by decide +kernel
theorem dX7_wrongBetween_46 : decode cX7_wrongBetween 46 = .ok (.if_icmp .ne 10, 3) := by decide +kernel
theorem dX7_wrongBetween_49 : decode cX7_wrongBetween 49 = .ok (.iload 6, 2) := by decide +kernel
theorem dX7_wrongBetween_51 : decode cX7_wrongBetween 51 = .ok (.ifCond .eq 5, 3) := by decide +kernel
theorem dX7_wrongBetween_54 : decode cX7_wrongBetween 54 = .ok (.iconst 2, 1) := by decide +kernel
theorem dX7_wrongBetween_55 : decode cX7_wrongBetween 55 = .ok (.ireturn, 1) := by decide +kernel
theorem dX7_wrongBetween_56 : decode cX7_wrongBetween 56 = .ok (.iload 5, 2) := by decide +kernel
theorem dX7_wrongBetween_58 : decode cX7_wrongBetween 58 = .ok (.iconst 2, 1) := by decide +kernel
theorem dX7_wrongBetween_59 : decode cX7_wrongBetween 59 = .ok (.if_icmp .ne 10, 3) := by decide +kernel
theorem dX7_wrongBetween_62 : decode cX7_wrongBetween 62 = .ok (.iload 6, 2) := by decide +kernel
theorem dX7_wrongBetween_64 : decode cX7_wrongBetween 64 = .ok (.ifCond .ne 5, 3) := by decide +kernel
theorem dX7_wrongBetween_67 : decode cX7_wrongBetween 67 = .ok (.iconst 3, 1) := by decide +kernel
theorem dX7_wrongBetween_68 : decode cX7_wrongBetween 68 = .ok (.ireturn, 1) := by decide +kernel
theorem dX7_wrongBetween_69 : decode cX7_wrongBetween 69 = .ok (.iconst 0, 1) := by decide +kernel
theorem dX7_wrongBetween_70 : decode cX7_wrongBetween 70 = .ok (.ireturn, 1) := by decide +kernel
theorem dX7_suits_0 : decode cX7_suits 0 = .ok (.iload_n 2, 1) := by decide +kernel
theorem dX7_suits_1 : decode cX7_suits 1 = .ok (.iload 4, 2) := by decide +kernel
theorem dX7_suits_3 : decode cX7_suits 3 = .ok (.if_icmp .eq 31, 3) := by decide +kernel
theorem dX7_suits_6 : decode cX7_suits 6 = .ok (.aload_n 0, 1) := by decide +kernel
theorem dX7_suits_7 : decode cX7_suits 7 = .ok (.iload_n 1, 1) := by decide +kernel
theorem dX7_suits_8 : decode cX7_suits 8 = .ok (.iload_n 2, 1) := by decide +kernel
theorem dX7_suits_9 : decode cX7_suits 9 = .ok (.iload_n 3, 1) := by decide +kernel
theorem dX7_suits_10 : decode cX7_suits 10 = .ok (.iload 4, 2) := by decide +kernel
theorem dX7_suits_12 : decode cX7_suits 12 = .ok (.invokevirtual 49, 3) := by decide +kernel
theorem dX7_suits_15 : decode cX7_suits 15 = .ok (.ifCond .ne 19, 3) := by decide +kernel
theorem dX7_suits_18 : decode cX7_suits 18 = .ok (.aload_n 0, 1) := by decide +kernel
theorem dX7_suits_19 : decode cX7_suits 19 = .ok (.iload_n 3, 1) := by decide +kernel
theorem dX7_suits_20 : decode cX7_suits 20 = .ok (.iload 4, 2) := by decide +kernel
theorem dX7_suits_22 : decode cX7_suits 22 = .ok (.iload_n 1, 1) := by decide +kernel
theorem dX7_suits_23 : decode cX7_suits 23 = .ok (.iload_n 2, 1) := by decide +kernel
theorem dX7_suits_24 : decode cX7_suits 24 = .ok (.invokevirtual 49, 3) := by decide +kernel
theorem dX7_suits_27 : decode cX7_suits 27 = .ok (.ifCond .ne 7, 3) := by decide +kernel
theorem dX7_suits_30 : decode cX7_suits 30 = .ok (.iconst 1, 1) := by decide +kernel
theorem dX7_suits_31 : decode cX7_suits 31 = .ok (.goto 4, 3) := by decide +kernel
theorem dX7_suits_34 : decode cX7_suits 34 = .ok (.iconst 0, 1) := by decide +kernel
theorem dX7_suits_35 : decode cX7_suits 35 = .ok (.ireturn, 1) := by decide +kernel
theorem dX7_isHidden_0 : decode cX7_isHidden 0 = .ok (.aload_n 0, 1) := by decide +kernel
theorem dX7_isHidden_1 : decode cX7_isHidden 1 = .ok (.iload_n 2, 1) := by decide +kernel
theorem dX7_isHidden_2 : decode cX7_isHidden 2 = .ok (.invokevirtual 61, 3) := by decide +kernel
theorem dX7_isHidden_5 : decode cX7_isHidden 5 = .ok (.aload_n 0, 1) := by decide +kernel
theorem dX7_isHidden_6 : decode cX7_isHidden 6 = .ok (.iload 4, 2) := by decide +kernel
theorem dX7_isHidden_8 : decode cX7_isHidden 8 = .ok (.invokevirtual 61, 3) := by decide +kernel
theorem dX7_isHidden_11 : decode cX7_isHidden 11 = .ok (.if_icmp .eq 5, 3) := by decide +kernel
theorem dX7_isHidden_14 : decode cX7_isHidden 14 = .ok (.iconst 0, 1) := by decide +kernel
theorem dX7_isHidden_15 : decode cX7_isHidden 15 = .ok (.ireturn, 1) := by decide +kernel
theorem dX7_isHidden_16 : decode cX7_isHidden 16 = .ok (.aload_n 0, 1) := by decide +kernel
theorem dX7_isHidden_17 : decode cX7_isHidden 17 = .ok (.iload_n 2, 1) := by decide +kernel
theorem dX7_isHidden_18 : decode cX7_isHidden 18 = .ok (.invokevirtual 65, 3) := by decide +kernel
theorem dX7_isHidden_21 : decode cX7_isHidden 21 = .ok (.istore 5, 2) := by decide +kernel
theorem dX7_isHidden_23 : decode cX7_isHidden 23 = .ok (.aload_n 0, 1) := by decide +kernel
theorem dX7_isHidden_24 : decode cX7_isHidden 24 = .ok (.iload 4, 2) := by decide +kernel
theorem dX7_isHidden_26 : decode cX7_isHidden 26 = .ok (.invokevirtual 65, 3) := by decide +kernel
theorem dX7_isHidden_29 : decode cX7_isHidden 29 = .ok (.istore 6, 2) := by decide +kernel
theorem dX7_isHidden_31 : decode cX7_isHidden 31 = .ok (.iload 5, 2) := by decide +kernel
theorem dX7_isHidden_33 : decode cX7_isHidden 33 = .ok (.iload 6, 2) := by decide +kernel
theorem dX7_isHidden_35 : decode cX7_isHidden 35 = .ok (.if_icmp .gt 5, 3) := by decide +kernel
theorem dX7_isHidden_38 : decode cX7_isHidden 38 = .ok (.iconst 0, 1) := by decide +kernel
theorem dX7_isHidden_39 : decode cX7_isHidden 39 = .ok (.ireturn, 1) := by decide +kernel
theorem dX7_isHidden_40 : decode cX7_isHidden 40 = .ok (.aload_n 0, 1) := by decide +kernel
theorem dX7_isHidden_41 : decode cX7_isHidden 41 = .ok (.getfield 21, 3) := by decide +kernel
theorem dX7_isHidden_44 : decode cX7_isHidden 44 = .ok (.iload_n 1, 1) := by decide +kernel
theorem dX7_isHidden_45 : decode cX7_isHidden 45 = .ok (.iaload, 1) := by decide +kernel
theorem dX7_isHidden_46 : decode cX7_isHidden 46 = .ok (.aload_n 0, 1) := by decide +kernel
theorem dX7_isHidden_47 : decode cX7_isHidden 47 = .ok (.getfield 18, 3) := by decide +kernel
theorem dX7_isHidden_50 : decode cX7_isHidden 50 = .ok (.iload 5, 2) := by decide +kernel
theorem dX7_isHidden_52 : decode cX7_isHidden 52 = .ok (.imul, 1) := by decide +kernel
theorem dX7_isHidden_53 : decode cX7_isHidden 53 = .ok (.iadd, 1) := by decide +kernel
theorem dX7_isHidden_54 : decode cX7_isHidden 54 = .ok (.aload_n 0, 1) := by decide +kernel
theorem dX7_isHidden_55 : decode cX7_isHidden 55 = .ok (.getfield 21, 3) := by decide +kernel
theorem dX7_isHidden_58 : decode cX7_isHidden 58 = .ok (.iload_n 3, 1) := by decide +kernel
theorem dX7_isHidden_59 : decode cX7_isHidden 59 = .ok (.iaload, 1) := by decide +kernel
theorem dX7_isHidden_60 : decode cX7_isHidden 60 = .ok (.aload_n 0, 1) := by decide +kernel
theorem dX7_isHidden_61 : decode cX7_isHidden 61 = .ok (.getfield 18, 3) := by decide +kernel
theorem dX7_isHidden_64 : decode cX7_isHidden 64 = .ok (.iload 6, 2) := by decide +kernel
theorem dX7_isHidden_66 : decode cX7_isHidden 66 = .ok (.imul, 1) := by decide +kernel
theorem dX7_isHidden_67 : decode cX7_isHidden 67 = .ok (.iadd, 1) := by decide +kernel
theorem dX7_isHidden_68 : decode cX7_isHidden 68 = .ok (.if_icmp .gt 7, 3) := by decide +kernel
theorem dX7_isHidden_71 : decode cX7_isHidden 71 = .ok (.iconst 1, 1) := by decide +kernel
theorem dX7_isHidden_72 : decode cX7_isHidden 72 = .ok (.goto 4, 3) := by decide +kernel
theorem dX7_isHidden_75 : decode cX7_isHidden 75 = .ok (.iconst 0, 1) := by decide +kernel
theorem dX7_isHidden_76 : decode cX7_isHidden 76 = .ok (.ireturn, 1) := by decide +kernel
theorem dX7_areNeighbours_0 : decode cX7_areNeighbours 0 = .ok (.aload_n 0, 1) := by decide +kernel
theorem dX7_areNeighbours_1 : decode cX7_areNeighbours 1 = .ok (.iload_n 1, 1) := by decide +kernel
theorem dX7_areNeighbours_2 : decode cX7_areNeighbours 2 = .ok (.invokevirtual 65, 3) := by decide +kernel
theorem dX7_areNeighbours_5 : decode cX7_areNeighbours 5 = .ok (.aload_n 0, 1) := by decide +kernel
