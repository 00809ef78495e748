theorem dX2_drawShots_40 : decode cX2_drawShots 40 = .ok (.iload 5, 2) := by decide +kernel
theorem dX2_drawShots_42 : decode cX2_drawShots 42 = .ok (.iconst 4, 1) := by decide +kernel
theorem dX2_drawShots_43 : decode cX2_drawShots 43 = .ok (.irem, 1) := by decide +kernel
theorem dX2_drawShots_44 : decode cX2_drawShots 44 = .ok (.aload_n 0, 1) := by decide +kernel
theorem dX2_drawShots_45 : decode cX2_drawShots 45 = .ok (.iload 6, 2) := by decide +kernel
theorem dX2_drawShots_47 : decode cX2_drawShots 47 = .ok (.iload 8, 2) := by decide +kernel
theorem dX2_drawShots_49 : decode cX2_drawShots 49 = .ok (.invokevirtual 34, 3) := by decide +kernel
theorem dX2_drawShots_52 : decode cX2_drawShots 52 = .ok (.if_icmp .ge 6, 3) := by decide +kernel
theorem dX2_drawShots_55 : decode cX2_drawShots 55 = .ok (.iconst 0, 1) := by decide +kernel
theorem dX2_drawShots_56 : decode cX2_drawShots 56 = .ok (.istore 7, 2) := by decide +kernel
theorem dX2_drawShots_58 : decode cX2_drawShots 58 = .ok (.iinc 8 1, 3) := by decide +kernel
theorem dX2_drawShots_61 : decode cX2_drawShots 61 = .ok (.goto (-40), 3) := by decide +kernel
theorem dX2_drawShots_64 : decode cX2_drawShots 64 = .ok (.iload 7, 2) := by decide +kernel
theorem dX2_drawShots_66 : decode cX2_drawShots 66 = .ok (.ifCond .eq 12, 3) := by decide +kernel
theorem dX2_drawShots_69 : decode cX2_drawShots 69 = .ok (.iload 4, 2) := by decide +kernel
theorem dX2_drawShots_71 : decode cX2_drawShots 71 = .ok (.iconst 1, 1) := by decide +kernel
theorem dX2_drawShots_72 : decode cX2_drawShots 72 = .ok (.iload 6, 2) := by decide +kernel
theorem dX2_drawShots_74 : decode cX2_drawShots 74 = .ok (.ishl, 1) := by decide +kernel
theorem dX2_drawShots_75 : decode cX2_drawShots 75 = .ok (.ior, 1) := by decide +kernel
theorem dX2_drawShots_76 : decode cX2_drawShots 76 = .ok (.istore 4, 2) := by decide +kernel
theorem dX2_drawShots_78 : decode cX2_drawShots 78 = .ok (.iinc 6 1, 3) := by decide +kernel
theorem dX2_drawShots_81 : decode cX2_drawShots 81 = .ok (.goto (-72), 3) := by decide +kernel
theorem dX2_drawShots_84 : decode cX2_drawShots 84 = .ok (.iload 4, 2) := by decide +kernel
theorem dX2_drawShots_86 : decode cX2_drawShots 86 = .ok (.ireturn, 1) := by decide +kernel
theorem dX3_init_0 : decode cX3_init 0 = .ok (.aload_n 0, 1) := by decide +kernel
theorem dX3_init_1 : decode cX3_init 1 = .ok (.invokespecial 3, 3) := by decide +kernel
theorem dX3_init_4 : decode cX3_init 4 = .ok (.aload_n 0, 1) := by decide +kernel
theorem dX3_init_5 : decode cX3_init 5 = .ok (.bipush 40, 2) := by decide +kernel
theorem dX3_init_7 : decode cX3_init 7 = .ok (.newarray .int, 2) := by decide +kernel
theorem dX3_init_9 : decode cX3_init 9 = .ok (.putfield 9, 3) := by decide +kernel
theorem dX3_init_12 : decode cX3_init 12 = .ok (.return_, 1) := by decide +kernel
theorem dX3_isFull_0 : decode cX3_isFull 0 = .ok (.aload_n 0, 1) := by decide +kernel
theorem dX3_isFull_1 : decode cX3_isFull 1 = .ok (.getfield 15, 3) := by decide +kernel
theorem dX3_isFull_4 : decode cX3_isFull 4 = .ok (.bipush 40, 2) := by decide +kernel
theorem dX3_isFull_6 : decode cX3_isFull 6 = .ok (.if_icmp .lt 7, 3) := by decide +kernel
theorem dX3_isFull_9 : decode cX3_isFull 9 = .ok (.iconst 1, 1) := by decide +kernel
theorem dX3_isFull_10 : decode cX3_isFull 10 = .ok (.goto 4, 3) := by decide +kernel
theorem dX3_isFull_13 : decode cX3_isFull 13 = .ok (.iconst 0, 1) := by decide +kernel
theorem dX3_isFull_14 : decode cX3_isFull 14 = .ok (.ireturn, 1) := by decide +kernel
theorem dX3_add_0 : decode cX3_add 0 = .ok (.aload_n 0, 1) := by decide +kernel
theorem dX3_add_1 : decode cX3_add 1 = .ok (.invokevirtual 19, 3) := by decide +kernel
theorem dX3_add_4 : decode cX3_add 4 = .ok (.ifCond .eq 8, 3) := by decide +kernel
theorem dX3_add_7 : decode cX3_add 7 = .ok (.aload_n 0, 1) := by decide +kernel
theorem dX3_add_8 : decode cX3_add 8 = .ok (.getfield 15, 3) := by decide +kernel
theorem dX3_add_11 : decode cX3_add 11 = .ok (.ireturn, 1) := by decide +kernel
theorem dX3_add_12 : decode cX3_add 12 = .ok (.aload_n 0, 1) := by decide +kernel
theorem dX3_add_13 : decode cX3_add 13 = .ok (.getfield 9, 3) := by decide +kernel
theorem dX3_add_16 : decode cX3_add 16 = .ok (.aload_n 0, 1) := by decide +kernel
theorem dX3_add_17 : decode cX3_add 17 = .ok (.getfield 15, 3) := by decide +kernel
theorem dX3_add_20 : decode cX3_add 20 = .ok (.iload_n 1, 1) := by decide +kernel
theorem dX3_add_21 : decode cX3_add 21 = .ok (.iastore, 1) := by decide +kernel
theorem dX3_add_22 : decode cX3_add 22 = .ok (.aload_n 0, 1) := by decide +kernel
theorem dX3_add_23 : decode cX3_add 23 = .ok (.dup, 1) := by decide +kernel
theorem dX3_add_24 : decode cX3_add 24 = .ok (.getfield 15, 3) := by decide +kernel
theorem dX3_add_27 : decode cX3_add 27 = .ok (.iconst 1, 1) := by decide +kernel
theorem dX3_add_28 : decode cX3_add 28 = .ok (.iadd, 1) := by decide +kernel
theorem dX3_add_29 : decode cX3_add 29 = .ok (.putfield 15, 3) := by decide +kernel
theorem dX3_add_32 : decode cX3_add 32 = .ok (.aload_n 0, 1) := by decide +kernel
theorem dX3_add_33 : decode cX3_add 33 = .ok (.getfield 15, 3) := by decide +kernel
theorem dX3_add_36 : decode cX3_add 36 = .ok (.ireturn, 1) := by decide +kernel
theorem dX3_clear_0 : decode cX3_clear 0 = .ok (.aload_n 0, 1) := by decide +kernel
theorem dX3_clear_1 : decode cX3_clear 1 = .ok (.getfield 15, 3) := by decide +kernel
theorem dX3_clear_4 : decode cX3_clear 4 = .ok (.istore_n 1, 1) := by decide +kernel
theorem dX3_clear_5 : decode cX3_clear 5 = .ok (.aload_n 0, 1) := by decide +kernel
theorem dX3_clear_6 : decode cX3_clear 6 = .ok (.iconst 0, 1) := by decide +kernel
theorem dX3_clear_7 : decode cX3_clear 7 = .ok (.putfield 15, 3) := by decide +kernel
theorem dX3_clear_10 : decode cX3_clear 10 = .ok (.iload_n 1, 1) := by decide +kernel
theorem dX3_clear_11 : decode cX3_clear 11 = .ok (.ireturn, 1) := by decide +kernel
theorem dX3_signAt_0 : decode cX3_signAt 0 = .ok (.iload_n 1, 1) := by decide +kernel
theorem dX3_signAt_1 : decode cX3_signAt 1 = .ok (.ifCond .lt 11, 3) := by decide +kernel
theorem dX3_signAt_4 : decode cX3_signAt 4 = .ok (.iload_n 1, 1) := by decide +kernel
theorem dX3_signAt_5 : decode cX3_signAt 5 = .ok (.aload_n 0, 1) := by decide +kernel
theorem dX3_signAt_6 : decode cX3_signAt 6 = .ok (.getfield 15, 3) := by decide +kernel
theorem dX3_signAt_9 : decode cX3_signAt 9 = .ok (.if_icmp .lt 7, 3) := by decide +kernel
theorem dX3_signAt_12 : decode cX3_signAt 12 = .ok (.iconst 0, 1) := by decide +kernel
theorem dX3_signAt_13 : decode cX3_signAt 13 = .ok (.goto 9, 3) := by decide +kernel
theorem dX3_signAt_16 : decode cX3_signAt 16 = .ok (.aload_n 0, 1) := by decide +kernel
theorem dX3_signAt_17 : decode cX3_signAt 17 = .ok (.getfield 9, 3) := by decide +kernel
theorem dX3_signAt_20 : decode cX3_signAt 20 = .ok (.iload_n 1, 1) := by decide +kernel
theorem dX3_signAt_21 : decode cX3_signAt 21 = .ok (.iaload, 1) := by decide +kernel
theorem dX3_signAt_22 : decode cX3_signAt 22 = .ok (.ireturn, 1) := by decide +kernel
theorem dX3_faultAsShot_0 : decode cX3_faultAsShot 0 = .ok (.iconst 0, 1) := by decide +kernel
theorem dX3_faultAsShot_1 : decode cX3_faultAsShot 1 = .ok (.istore_n 2, 1) := by decide +kernel
theorem dX3_faultAsShot_2 : decode cX3_faultAsShot 2 = .ok (.iload_n 2, 1) := by decide +kernel
theorem dX3_faultAsShot_3 : decode cX3_faultAsShot 3 = .ok (.aload_n 0, 1) := by decide +kernel
theorem dX3_faultAsShot_4 : decode cX3_faultAsShot 4 = .ok (.getfield 15, 3) := by decide +kernel
theorem dX3_faultAsShot_7 : decode cX3_faultAsShot 7 = .ok (.if_icmp .ge 27, 3) := by decide +kernel
theorem dX3_faultAsShot_10 : decode cX3_faultAsShot 10 = .ok (.iload_n 2, 1) := by decide +kernel
theorem dX3_faultAsShot_11 : decode cX3_faultAsShot 11 = .ok (.iload_n 1, 1) := by decide +kernel
theorem dX3_faultAsShot_12 : decode cX3_faultAsShot 12 = .ok (.if_icmp .ge 22, 3) := by decide +kernel
theorem dX3_faultAsShot_15 : decode cX3_faultAsShot 15 = .ok (.aload_n 0, 1) := by decide +kernel
theorem dX3_faultAsShot_16 : decode cX3_faultAsShot 16 = .ok (.iload_n 2, 1) := by decide +kernel
theorem dX3_faultAsShot_17 : decode cX3_faultAsShot 17 = .ok (.invokevirtual 23, 3) := by decide +kernel
theorem dX3_faultAsShot_20 : decode cX3_faultAsShot 20 = .ok (.invokestatic 27, 3) := by decide +kernel
theorem dX3_faultAsShot_23 : decode cX3_faultAsShot 23 = .ok (.ifCond .ne 5, 3) := by decide +kernel
theorem dX3_faultAsShot_26 : decode cX3_faultAsShot 26 = .ok (.iload_n 2, 1) := by decide +kernel
theorem dX3_faultAsShot_27 : decode cX3_faultAsShot 27 = .ok (.ireturn, 1) := by decide +kernel
theorem dX3_faultAsShot_28 : decode cX3_faultAsShot 28 = .ok (.iinc 2 1, 3) := by decide +kernel
theorem dX3_faultAsShot_31 : decode cX3_faultAsShot 31 = .ok (.goto (-29), 3) := by decide +kernel
theorem dX3_faultAsShot_34 : decode cX3_faultAsShot 34 = .ok (.aload_n 0, 1) := by decide +kernel
theorem dX3_faultAsShot_35 : decode cX3_faultAsShot 35 = .ok (.iload_n 1, 1) := by decide +kernel
theorem dX3_faultAsShot_36 : decode cX3_faultAsShot 36 = .ok (.invokevirtual 31, 3) := by decide +kernel
theorem dX3_faultAsShot_39 : decode cX3_faultAsShot 39 = .ok (.ireturn, 1) := by decide +kernel
theorem dX3_faultAsStanding_0 : decode cX3_faultAsStanding 0 = .ok (.iconst 0, 1) := by decide +kernel
theorem dX3_faultAsStanding_1 : decode cX3_faultAsStanding 1 = .ok (.istore_n 3, 1) := by decide +kernel
theorem dX3_faultAsStanding_2 : decode cX3_faultAsStanding 2 = .ok (.iconst 0, 1) := by decide +kernel
theorem dX3_faultAsStanding_3 : decode cX3_faultAsStanding 3 = .ok (.istore 4, 2) := by decide +kernel
theorem dX3_faultAsStanding_5 : decode cX3_faultAsStanding 5 = .ok (.iload 4, 2) := by decide +kernel
theorem dX3_faultAsStanding_7 : decode cX3_faultAsStanding 7 = .ok (.aload_n 0, 1) := by decide +kernel
theorem dX3_faultAsStanding_8 : decode cX3_faultAsStanding 8 = .ok (.getfield 15, 3) := by decide +kernel
theorem dX3_faultAsStanding_11 : decode cX3_faultAsStanding 11 = .ok (.if_icmp .ge 58, 3) := by decide +kernel
theorem dX3_faultAsStanding_14 : decode cX3_faultAsStanding 14 = .ok (.iload 4, 2) := by decide +kernel
theorem dX3_faultAsStanding_16 : decode cX3_faultAsStanding 16 = .ok (.iload_n 1, 1) := by decide +kernel
theorem dX3_faultAsStanding_17 : decode cX3_faultAsStanding 17 = .ok (.if_icmp .ge 52, 3) := by decide +kernel
theorem dX3_faultAsStanding_20 : decode cX3_faultAsStanding 20 = .ok (.aload_n 0, 1) := by decide +kernel
theorem dX3_faultAsStanding_21 : decode cX3_faultAsStanding 21 = .ok (.iload 4, 2) := by decide +kernel
theorem dX3_faultAsStanding_23 : decode cX3_faultAsStanding 23 = .ok (.invokevirtual 23, 3) := by decide +kernel
theorem dX3_faultAsStanding_26 : decode cX3_faultAsStanding 26 = .ok (.bipush 48, 2) := by decide +kernel
theorem dX3_faultAsStanding_28 : decode cX3_faultAsStanding 28 = .ok (.isub, 1) := by decide +kernel
theorem dX3_faultAsStanding_29 : decode cX3_faultAsStanding 29 = .ok (.istore 5, 2) := by decide +kernel
theorem dX3_faultAsStanding_31 : decode cX3_faultAsStanding 31 = .ok (.iload 5, 2) := by decide +kernel
theorem dX3_faultAsStanding_33 : decode cX3_faultAsStanding 33 = .ok (.iconst 0, 1) := by decide +kernel
theorem dX3_faultAsStanding_34 : decode cX3_faultAsStanding 34 = .ok (.iload_n 2, 1) := by decide +kernel
theorem dX3_faultAsStanding_35 : decode cX3_faultAsStanding 35 = .ok (.iconst 1, 1) := by decide +kernel
theorem dX3_faultAsStanding_36 : decode cX3_faultAsStanding 36 = .ok (.isub, 1) := by decide +kernel
theorem dX3_faultAsStanding_37 : decode cX3_faultAsStanding 37 = .ok (.invokestatic 34, 3) := by decide +kernel
theorem dX3_faultAsStanding_40 : decode cX3_faultAsStanding 40 = .ok (.ifCond .eq 13, 3) := by decide +kernel
theorem dX3_faultAsStanding_43 : decode cX3_faultAsStanding 43 = .ok (.iload_n 3, 1) := by decide +kernel
theorem dX3_faultAsStanding_44 : decode cX3_faultAsStanding 44 = .ok (.iload 5, 2) := by decide +kernel
theorem dX3_faultAsStanding_46 : decode cX3_faultAsStanding 46 = .ok (.ishr, 1) := by decide +kernel
theorem dX3_faultAsStanding_47 : decode cX3_faultAsStanding 47 = .ok (.iconst 1, 1) := by decide +kernel
theorem dX3_faultAsStanding_48 : decode cX3_faultAsStanding 48 = .ok (.iand, 1) := by decide +kernel
theorem dX3_faultAsStanding_49 : decode cX3_faultAsStanding 49 = .ok (.iconst 1, 1) := by decide +kernel
theorem dX3_faultAsStanding_50 : decode cX3_faultAsStanding 50 = .ok (.if_icmp .ne 6, 3) := by decide +kernel
theorem dX3_faultAsStanding_53 : decode cX3_faultAsStanding 53 = .ok (.iload 4, 2) := by decide +kernel
theorem dX3_faultAsStanding_55 : decode cX3_faultAsStanding 55 = .ok (.ireturn, 1) := by decide +kernel
theorem dX3_faultAsStanding_56 : decode cX3_faultAsStanding 56 = .ok (.iload_n 3, 1) := by decide +kernel
theorem dX3_faultAsStanding_57 : decode cX3_faultAsStanding 57 = .ok (.iconst 1, 1) := by decide +kernel
theorem dX3_faultAsStanding_58 : decode cX3_faultAsStanding 58 = .ok (.iload 5, 2) := by decide +kernel
theorem dX3_faultAsStanding_60 : decode cX3_faultAsStanding 60 = .ok (.ishl, 1) := by decide +kernel
theorem dX3_faultAsStanding_61 : decode cX3_faultAsStanding 61 = .ok (.ior, 1) := by decide +kernel
theorem dX3_faultAsStanding_62 : decode cX3_faultAsStanding 62 = .ok (.istore_n 3, 1) := by decide +kernel
theorem dX3_faultAsStanding_63 : decode cX3_faultAsStanding 63 = .ok (.iinc 4 1, 3) := by decide +kernel
theorem dX3_faultAsStanding_66 : decode cX3_faultAsStanding 66 = .ok (.goto (-61), 3) := by decide +kernel
theorem dX3_faultAsStanding_69 : decode cX3_faultAsStanding 69 = .ok (.aload_n 0, 1) := by decide +kernel
theorem dX3_faultAsStanding_70 : decode cX3_faultAsStanding 70 = .ok (.iload_n 1, 1) := by decide +kernel
theorem dX3_faultAsStanding_71 : decode cX3_faultAsStanding 71 = .ok (.invokevirtual 31, 3) := by decide +kernel
theorem dX3_faultAsStanding_74 : decode cX3_faultAsStanding 74 = .ok (.ireturn, 1) := by decide +kernel
theorem dX3_readStanding_0 : decode cX3_readStanding 0 = .ok (.iconst 0, 1) := by decide +kernel
theorem dX3_readStanding_1 : decode cX3_readStanding 1 = .ok (.istore_n 3, 1) := by decide +kernel
theorem dX3_readStanding_2 : decode cX3_readStanding 2 = .ok (.iload_n 3, 1) := by decide +kernel
theorem dX3_readStanding_3 : decode cX3_readStanding 3 = .ok (.iload_n 2, 1) := by decide +kernel
theorem dX3_readStanding_4 : decode cX3_readStanding 4 = .ok (.if_icmp .ge 26, 3) := by decide +kernel
theorem dX3_readStanding_7 : decode cX3_readStanding 7 = .ok (.iload_n 3, 1) := by decide +kernel
theorem dX3_readStanding_8 : decode cX3_readStanding 8 = .ok (.aload_n 1, 1) := by decide +kernel
theorem dX3_readStanding_9 : decode cX3_readStanding 9 = .ok (.arraylength, 1) := by decide +kernel
theorem dX3_readStanding_10 : decode cX3_readStanding 10 = .ok (.if_icmp .ge 20, 3) := by decide +kernel
theorem dX3_readStanding_13 : decode cX3_readStanding 13 = .ok (.aload_n 1, 1) := by decide +kernel
theorem dX3_readStanding_14 : decode cX3_readStanding 14 = .ok (.iload_n 3, 1) := by decide +kernel
theorem dX3_readStanding_15 : decode cX3_readStanding 15 = .ok (.aload_n 0, 1) := by decide +kernel
theorem dX3_readStanding_16 : decode cX3_readStanding 16 = .ok (.iload_n 3, 1) := by decide +kernel
theorem dX3_readStanding_17 : decode cX3_readStanding 17 = .ok (.invokevirtual 23, 3) := by decide +kernel
theorem dX3_readStanding_20 : decode cX3_readStanding 20 = .ok (.bipush 48, 2) := by decide +kernel
theorem dX3_readStanding_22 : decode cX3_readStanding 22 = .ok (.isub, 1) := by decide +kernel
theorem dX3_readStanding_23 : decode cX3_readStanding 23 = .ok (.iastore, 1) := by decide +kernel
theorem dX3_readStanding_24 : decode cX3_readStanding 24 = .ok (.iinc 3 1, 3) := by decide +kernel
theorem dX3_readStanding_27 : decode cX3_readStanding 27 = .ok (.goto (-25), 3) := by decide +kernel
theorem dX3_readStanding_30 : decode cX3_readStanding 30 = .ok (.return_, 1) := by decide +kernel
theorem dX3_faultOfLength_0 : decode cX3_faultOfLength 0 = .ok (.aload_n 0, 1) := by decide +kernel
theorem dX3_faultOfLength_1 : decode cX3_faultOfLength 1 = .ok (.getfield 15, 3) := by decide +kernel
theorem dX3_faultOfLength_4 : decode cX3_faultOfLength 4 = .ok (.iload_n 1, 1) := by decide +kernel
theorem dX3_faultOfLength_5 : decode cX3_faultOfLength 5 = .ok (.if_icmp .ne 8, 3) := by decide +kernel
theorem dX3_faultOfLength_8 : decode cX3_faultOfLength 8 = .ok (.bipush (-6), 2) := by decide +kernel
theorem dX3_faultOfLength_10 : decode cX3_faultOfLength 10 = .ok (.goto 11, 3) := by decide +kernel
theorem dX3_faultOfLength_13 : decode cX3_faultOfLength 13 = .ok (.aload_n 0, 1) := by decide +kernel
theorem dX3_faultOfLength_14 : decode cX3_faultOfLength 14 = .ok (.getfield 15, 3) := by decide +kernel
theorem dX3_faultOfLength_17 : decode cX3_faultOfLength 17 = .ok (.iload_n 1, 1) := by decide +kernel
theorem dX3_faultOfLength_18 : decode cX3_faultOfLength 18 = .ok (.invokestatic 38, 3) := by decide +kernel
theorem dX3_faultOfLength_21 : decode cX3_faultOfLength 21 = .ok (.ireturn, 1) := by decide +kernel
theorem dX3_isLook_0 : decode cX3_isLook 0 = .ok (.iload_n 0, 1) := by decide +kernel
theorem dX3_isLook_1 : decode cX3_isLook 1 = .ok (.bipush 111, 2) := by decide +kernel
theorem dX3_isLook_3 : decode cX3_isLook 3 = .ok (.if_icmp .eq 21, 3) := by decide +kernel
theorem dX3_isLook_6 : decode cX3_isLook 6 = .ok (.iload_n 0, 1) := by decide +kernel
theorem dX3_isLook_7 : decode cX3_isLook 7 = .ok (.bipush 115, 2) := by decide +kernel
theorem dX3_isLook_9 : decode cX3_isLook 9 = .ok (.if_icmp .eq 15, 3) := by decide +kernel
theorem dX3_isLook_12 : decode cX3_isLook 12 = .ok (.iload_n 0, 1) := by decide +kernel
theorem dX3_isLook_13 : decode cX3_isLook 13 = .ok (.bipush 116, 2) := by decide +kernel
theorem dX3_isLook_15 : decode cX3_isLook 15 = .ok (.if_icmp .eq 9, 3) := by decide +kernel
theorem dX3_isLook_18 : decode cX3_isLook 18 = .ok (.iload_n 0, 1) := by decide +kernel
theorem dX3_isLook_19 : decode cX3_isLook 19 = .ok (.bipush 104, 2) := by decide +kernel
theorem dX3_isLook_21 : decode cX3_isLook 21 = .ok (.if_icmp .ne 7, 3) := by decide +kernel
theorem dX3_isLook_24 : decode cX3_isLook 24 = .ok (.iconst 1, 1) := by decide +kernel
theorem dX3_isLook_25 : decode cX3_isLook 25 = .ok (.goto 4, 3) := by decide +kernel
theorem dX3_isLook_28 : decode cX3_isLook 28 = .ok (.iconst 0, 1) := by decide +kernel
theorem dX3_isLook_29 : decode cX3_isLook 29 = .ok (.ireturn, 1) := by decide +kernel
theorem dX4_init_0 : decode cX4_init 0 = .ok (.aload_n 0, 1) := by decide +kernel
theorem dX4_init_1 : decode cX4_init 1 = .ok (.invokespecial 3, 3) := by decide +kernel
theorem dX4_init_4 : decode cX4_init 4 = .ok (.aload_n 0, 1) := by decide +kernel
theorem dX4_init_5 : decode cX4_init 5 = .ok (.bipush 64, 2) := by decide +kernel
theorem dX4_init_7 : decode cX4_init 7 = .ok (.newarray .long, 2) := by decide +kernel
theorem dX4_init_9 : decode cX4_init 9 = .ok (.putfield 9, 3) := by decide +kernel
theorem dX4_init_12 : decode cX4_init 12 = .ok (.aload_n 0, 1) := by decide +kernel
theorem dX4_init_13 : decode cX4_init 13 = .ok (.bipush 8, 2) := by decide +kernel
theorem dX4_init_15 : decode cX4_init 15 = .ok (.newarray .int, 2) := by decide +kernel
theorem dX4_init_17 : decode cX4_init 17 = .ok (.putfield 15, 3) := by decide +kernel
theorem dX4_init_20 : decode cX4_init 20 = .ok (.return_, 1) := by decide +kernel
theorem dX4_firstOf_0 : decode cX4_firstOf 0 = .ok (.aload_n 0, 1) := by decide +kernel
theorem dX4_firstOf_1 : decode cX4_firstOf 1 = .ok (.getfield 15, 3) := by decide +kernel
theorem dX4_firstOf_4 : decode cX4_firstOf 4 = .ok (.iload_n 1, 1) := by decide +kernel
theorem dX4_firstOf_5 : decode cX4_firstOf 5 = .ok (.iaload, 1) := by decide +kernel
theorem dX4_firstOf_6 : decode cX4_firstOf 6 = .ok (.ireturn, 1) := by decide +kernel
theorem dX4_solve_0 : decode cX4_solve 0 = .ok (.aload_n 1, 1) := by decide +kernel
theorem dX4_solve_1 : decode cX4_solve 1 = .ok (.getfield 19, 3) := by decide +kernel
theorem dX4_solve_4 : decode cX4_solve 4 = .ok (.ifCond .ne 4, 3) := by decide +kernel
theorem dX4_solve_7 : decode cX4_solve 7 = .ok (.return_, 1) := by decide +kernel
theorem dX4_solve_8 : decode cX4_solve 8 = .ok (.aload_n 1, 1) := by decide +kernel
theorem dX4_solve_9 : decode cX4_solve 9 = .ok (.iconst 0, 1) := by decide +kernel
theorem dX4_solve_10 : decode cX4_solve 10 = .ok (.putfield 19, 3) := by decide +kernel
theorem dX4_solve_13 : decode cX4_solve 13 = .ok (.aload_n 0, 1) := by decide +kernel
theorem dX4_solve_14 : decode cX4_solve 14 = .ok (.iload_n 2, 1) := by decide +kernel
theorem dX4_solve_15 : decode cX4_solve 15 = .ok (.putfield 25, 3) := by decide +kernel
theorem dX4_solve_18 : decode cX4_solve 18 = .ok (.iconst 0, 1) := by decide +kernel
theorem dX4_solve_19 : decode cX4_solve 19 = .ok (.istore_n 3, 1) := by decide +kernel
theorem dX4_solve_20 : decode cX4_solve 20 = .ok (.iload_n 3, 1) := by decide +kernel
theorem dX4_solve_21 : decode cX4_solve 21 = .ok (.bipush 8, 2) := by decide +kernel
theorem dX4_solve_23 : decode cX4_solve 23 = .ok (.if_icmp .ge 17, 3) := by decide +kernel
theorem dX4_solve_26 : decode cX4_solve 26 = .ok (.aload_n 0, 1) := by decide +kernel
theorem dX4_solve_27 : decode cX4_solve 27 = .ok (.getfield 15, 3) := by decide +kernel
theorem dX4_solve_30 : decode cX4_solve 30 = .ok (.iload_n 3, 1) := by decide +kernel
theorem dX4_solve_31 : decode cX4_solve 31 = .ok (.bipush (-6), 2) := by decide +kernel
theorem dX4_solve_33 : decode cX4_solve 33 = .ok (.iastore, 1) := by decide +kernel
theorem dX4_solve_34 : decode cX4_solve 34 = .ok (.iinc 3 1, 3) := by decide +kernel
theorem dX4_solve_37 : decode cX4_solve 37 = .ok (.goto (-17), 3) := by decide +kernel
theorem dX4_solve_40 : decode cX4_solve 40 = .ok (.iconst 0, 1) := by decide +kernel
theorem dX4_solve_41 : decode cX4_solve 41 = .ok (.istore_n 3, 1) := by decide +kernel
theorem dX4_solve_42 : decode cX4_solve 42 = .ok (.iload_n 3, 1) := by decide +kernel
theorem dX4_solve_43 : decode cX4_solve 43 = .ok (.aload_n 0, 1) := by decide +kernel
theorem dX4_solve_44 : decode cX4_solve 44 = .ok (.getfield 25, 3) := by decide +kernel
theorem dX4_solve_47 : decode cX4_solve 47 = .ok (.if_icmp .ge 47, 3) := by decide +kernel
theorem dX4_solve_50 : decode cX4_solve 50 = .ok (.iconst 0, 1) := by decide +kernel
theorem dX4_solve_51 : decode cX4_solve 51 = .ok (.istore 4, 2) := by decide +kernel
theorem dX4_solve_53 : decode cX4_solve 53 = .ok (.iload 4, 2) := by decide +kernel
theorem dX4_solve_55 : decode cX4_solve 55 = .ok (.aload_n 1, 1) := by decide +kernel
theorem dX4_solve_56 : decode cX4_solve 56 = .ok (.invokevirtual 29, 3) := by decide +kernel
theorem dX4_solve_59 : decode cX4_solve 59 = .ok (.if_icmp .ge 29, 3) := by decide +kernel
theorem dX4_solve_62 : decode cX4_solve 62 = .ok (.aload_n 0, 1) := by decide +kernel
theorem dX4_solve_63 : decode cX4_solve 63 = .ok (.getfield 9, 3) := by decide +kernel
theorem dX4_solve_66 : decode cX4_solve 66 = .ok (.iload_n 3, 1) := by decide +kernel
theorem dX4_solve_67 : decode cX4_solve 67 = .ok (.bipush 8, 2) := by decide +kernel
theorem dX4_solve_69 : decode cX4_solve 69 = .ok (.imul, 1) := by decide +kernel
theorem dX4_solve_70 : decode cX4_solve 70 = .ok (.iload 4, 2) := by decide +kernel
theorem dX4_solve_72 : decode cX4_solve 72 = .ok (.iadd, 1) := by decide +kernel
theorem dX4_solve_73 : decode cX4_solve 73 = .ok (.aload_n 0, 1) := by decide +kernel
theorem dX4_solve_74 : decode cX4_solve 74 = .ok (.aload_n 1, 1) := by decide +kernel
theorem dX4_solve_75 : decode cX4_solve 75 = .ok (.iload_n 3, 1) := by decide +kernel
theorem dX4_solve_76 : decode cX4_solve 76 = .ok (.iload 4, 2) := by decide +kernel
theorem dX4_solve_78 : decode cX4_solve 78 = .ok (.invokevirtual 33, 3) := by decide +kernel
theorem dX4_solve_81 : decode cX4_solve 81 = .ok (.lastore, 1) := by decide +kernel
theorem dX4_solve_82 : decode cX4_solve 82 = .ok (.iinc 4 1, 3) := by decide +kernel
theorem dX4_solve_85 : decode cX4_solve 85 = .ok (.goto (-32), 3) := by decide +kernel
theorem dX4_solve_88 : decode cX4_solve 88 = .ok (.iinc 3 1, 3) := by decide +kernel
theorem dX4_solve_91 : decode cX4_solve 91 = .ok (.goto (-49), 3) := by decide +kernel
theorem dX4_solve_94 : decode cX4_solve 94 = .ok (.aload_n 0, 1) := by decide +kernel
theorem dX4_solve_95 : decode cX4_solve 95 = .ok (.aload_n 0, 1) := by decide +kernel
theorem dX4_solve_96 : decode cX4_solve 96 = .ok (.iconst 0, 1) := by decide +kernel
theorem dX4_solve_97 : decode cX4_solve 97 = .ok (.aload_n 0, 1) := by decide +kernel
theorem dX4_solve_98 : decode cX4_solve 98 = .ok (.aload_n 1, 1) := by decide +kernel
theorem dX4_solve_99 : decode cX4_solve 99 = .ok (.invokevirtual 37, 3) := by decide +kernel
theorem dX4_solve_102 : decode cX4_solve 102 = .ok (.invokestatic 41, 3) := by decide +kernel
theorem dX4_solve_105 : decode cX4_solve 105 = .ok (.putfield 45, 3) := by decide +kernel
theorem dX4_solve_108 : decode cX4_solve 108 = .ok (.return_, 1) := by decide +kernel
theorem dX4_leftBehind_0 : decode cX4_leftBehind 0 = .ok (.lconst 0, 1) := by decide +kernel
theorem dX4_leftBehind_1 : decode cX4_leftBehind 1 = .ok (.lstore 4, 2) := by decide +kernel
theorem dX4_leftBehind_3 : decode cX4_leftBehind 3 = .ok (.iload_n 2, 1) := by decide +kernel
theorem dX4_leftBehind_4 : decode cX4_leftBehind 4 = .ok (.iconst 1, 1) := by decide +kernel
theorem dX4_leftBehind_5 : decode cX4_leftBehind 5 = .ok (.iadd, 1) := by decide +kernel
theorem dX4_leftBehind_6 : decode cX4_leftBehind 6 = .ok (.istore 6, 2) := by decide +kernel
theorem dX4_leftBehind_8 : decode cX4_leftBehind 8 = .ok (.iload 6, 2) := by decide +kernel
theorem dX4_leftBehind_10 : decode cX4_leftBehind 10 = .ok (.aload_n 0, 1) := by decide +kernel
theorem dX4_leftBehind_11 : decode cX4_leftBehind 11 = .ok (.getfield 25, 3) := by decide +kernel
theorem dX4_leftBehind_14 : decode cX4_leftBehind 14 = .ok (.if_icmp .ge 52, 3) := by decide +kernel
theorem dX4_leftBehind_17 : decode cX4_leftBehind 17 = .ok (.iconst 0, 1) := by decide +kernel
theorem dX4_leftBehind_18 : decode cX4_leftBehind 18 = .ok (.istore 7, 2) := by decide +kernel
theorem dX4_leftBehind_20 : decode cX4_leftBehind 20 = .ok (.iload 7, 2) := by decide +kernel
theorem dX4_leftBehind_22 : decode cX4_leftBehind 22 = .ok (.aload_n 1, 1) := by decide +kernel
theorem dX4_leftBehind_23 : decode cX4_leftBehind 23 = .ok (.invokevirtual 29, 3) := by decide +kernel
theorem dX4_leftBehind_26 : decode cX4_leftBehind 26 = .ok (.if_icmp .ge 34, 3) := by decide +kernel
theorem dX4_leftBehind_29 : decode cX4_leftBehind 29 = .ok (.aload_n 1, 1) := by decide +kernel
theorem dX4_leftBehind_30 : decode cX4_leftBehind 30 = .ok (.iload_n 2, 1) := by decide +kernel
theorem dX4_leftBehind_31 : decode cX4_leftBehind 31 = .ok (.iload_n 3, 1) := by decide +kernel
theorem dX4_leftBehind_32 : decode cX4_leftBehind 32 = .ok (.iload 6, 2) := by decide +kernel
theorem dX4_leftBehind_34 : decode cX4_leftBehind 34 = .ok (.iload 7, 2) := by decide +kernel
theorem dX4_leftBehind_36 : decode cX4_leftBehind 36 = .ok (.invokevirtual 48, 3) := by decide +kernel
theorem dX4_leftBehind_39 : decode cX4_leftBehind 39 = .ok (.ifCond .eq 15, 3) := by decide +kernel
theorem dX4_leftBehind_42 : decode cX4_leftBehind 42 = .ok (.lload 4, 2) := by decide +kernel
theorem dX4_leftBehind_44 : decode cX4_leftBehind 44 = .ok (.iload 6, 2) := by decide +kernel
theorem dX4_leftBehind_46 : decode cX4_leftBehind 46 = .ok (.iload 7, 2) := by decide +kernel
theorem dX4_leftBehind_48 : decode cX4_leftBehind 48 = .ok (.invokestatic 52, 3) := by decide +kernel
theorem dX4_leftBehind_51 : decode cX4_leftBehind 51 = .ok (.lor, 1) := by decide +kernel
theorem dX4_leftBehind_52 : decode cX4_leftBehind 52 = .ok (.lstore 4, 2) := by decide +kernel
theorem dX4_leftBehind_54 : decode cX4_leftBehind 54 = .ok (.iinc 7 1, 3) := by decide +kernel
theorem dX4_leftBehind_57 : decode cX4_leftBehind 57 = .ok (.goto (-37), 3) := by decide +kernel
theorem dX4_leftBehind_60 : decode cX4_leftBehind 60 = .ok (.iinc 6 1, 3) := by decide +kernel
theorem dX4_leftBehind_63 : decode cX4_leftBehind 63 = .ok (.goto (-55), 3) := by decide +kernel
theorem dX4_leftBehind_66 : decode cX4_leftBehind 66 = .ok (.lload 4, 2) := by decide +kernel
theorem dX4_leftBehind_68 : decode cX4_leftBehind 68 = .ok (.lreturn, 1) := by decide +kernel
theorem dX4_allPlaces_0 : decode cX4_allPlaces 0 = .ok (.lconst 0, 1) := by decide +kernel
theorem dX4_allPlaces_1 : decode cX4_allPlaces 1 = .ok (.lstore_n 2, 1) := by decide +kernel
theorem dX4_allPlaces_2 : decode cX4_allPlaces 2 = .ok (.iconst 0, 1) := by decide +kernel
theorem dX4_allPlaces_3 : decode cX4_allPlaces 3 = .ok (.istore 4, 2) := by decide +kernel
theorem dX4_allPlaces_5 : decode cX4_allPlaces 5 = .ok (.iload 4, 2) := by decide +kernel
theorem dX4_allPlaces_7 : decode cX4_allPlaces 7 = .ok (.aload_n 0, 1) := by decide +kernel
theorem dX4_allPlaces_8 : decode cX4_allPlaces 8 = .ok (.getfield 25, 3) := by decide +kernel
theorem dX4_allPlaces_11 : decode cX4_allPlaces 11 = .ok (.if_icmp .ge 37, 3) := by decide +kernel
theorem dX4_allPlaces_14 : decode cX4_allPlaces 14 = .ok (.iconst 0, 1) := by decide +kernel
theorem dX4_allPlaces_15 : decode cX4_allPlaces 15 = .ok (.istore 5, 2) := by decide +kernel
theorem dX4_allPlaces_17 : decode cX4_allPlaces 17 = .ok (.iload 5, 2) := by decide +kernel
theorem dX4_allPlaces_19 : decode cX4_allPlaces 19 = .ok (.aload_n 1, 1) := by decide +kernel
theorem dX4_allPlaces_20 : decode cX4_allPlaces 20 = .ok (.invokevirtual 29, 3) := by decide +kernel
theorem dX4_allPlaces_23 : decode cX4_allPlaces 23 = .ok (.if_icmp .ge 19, 3) := by decide +kernel
theorem dX4_allPlaces_26 : decode cX4_allPlaces 26 = .ok (.lload_n 2, 1) := by decide +kernel
theorem dX4_allPlaces_27 : decode cX4_allPlaces 27 = .ok (.iload 4, 2) := by decide +kernel
theorem dX4_allPlaces_29 : decode cX4_allPlaces 29 = .ok (.iload 5, 2) := by decide +kernel
theorem dX4_allPlaces_31 : decode cX4_allPlaces 31 = .ok (.invokestatic 52, 3) := by decide +kernel
theorem dX4_allPlaces_34 : decode cX4_allPlaces 34 = .ok (.lor, 1) := by decide +kernel
theorem dX4_allPlaces_35 : decode cX4_allPlaces 35 = .ok (.lstore_n 2, 1) := by decide +kernel
theorem dX4_allPlaces_36 : decode cX4_allPlaces 36 = .ok (.iinc 5 1, 3) := by decide +kernel
theorem dX4_allPlaces_39 : decode cX4_allPlaces 39 = .ok (.goto (-22), 3) := by decide +kernel
theorem dX4_allPlaces_42 : decode cX4_allPlaces 42 = .ok (.iinc 4 1, 3) := by decide +kernel
theorem dX4_allPlaces_45 : decode cX4_allPlaces 45 = .ok (.goto (-40), 3) := by decide +kernel
theorem dX4_allPlaces_48 : decode cX4_allPlaces 48 = .ok (.lload_n 2, 1) := by decide +kernel
theorem dX4_allPlaces_49 : decode cX4_allPlaces 49 = .ok (.lreturn, 1) := by decide +kernel
theorem dX4_bitOf_0 : decode cX4_bitOf 0 = .ok (.lconst 1, 1) := by decide +kernel
theorem dX4_bitOf_1 : decode cX4_bitOf 1 = .ok (.iload_n 0, 1) := by decide +kernel
theorem dX4_bitOf_2 : decode cX4_bitOf 2 = .ok (.bipush 8, 2) := by decide +kernel
theorem dX4_bitOf_4 : decode cX4_bitOf 4 = .ok (.imul, 1) := by decide +kernel
theorem dX4_bitOf_5 : decode cX4_bitOf 5 = .ok (.iload_n 1, 1) := by decide +kernel
theorem dX4_bitOf_6 : decode cX4_bitOf 6 = .ok (.iadd, 1) := by decide +kernel
theorem dX4_bitOf_7 : decode cX4_bitOf 7 = .ok (.lshl, 1) := by decide +kernel
theorem dX4_bitOf_8 : decode cX4_bitOf 8 = .ok (.lreturn, 1) := by decide +kernel
theorem dX4_countFrom_0 : decode cX4_countFrom 0 = .ok (.iload_n 1, 1) := by decide +kernel
theorem dX4_countFrom_1 : decode cX4_countFrom 1 = .ok (.ifCond .lt 11, 3) := by decide +kernel
theorem dX4_countFrom_4 : decode cX4_countFrom 4 = .ok (.iload_n 1, 1) := by decide +kernel
theorem dX4_countFrom_5 : decode cX4_countFrom 5 = .ok (.aload_n 0, 1) := by decide +kernel
theorem dX4_countFrom_6 : decode cX4_countFrom 6 = .ok (.getfield 25, 3) := by decide +kernel
theorem dX4_countFrom_9 : decode cX4_countFrom 9 = .ok (.if_icmp .lt 5, 3) := by decide +kernel
theorem dX4_countFrom_12 : decode cX4_countFrom 12 = .ok (.iconst 1, 1) := by decide +kernel
theorem dX4_countFrom_13 : decode cX4_countFrom 13 = .ok (.ireturn, 1) := by decide +kernel
theorem dX4_countFrom_14 : decode cX4_countFrom 14 = .ok (.lload_n 2, 1) := by decide +kernel
theorem dX4_countFrom_15 : decode cX4_countFrom 15 = .ok (.iload_n 1, 1) := by decide +kernel
theorem dX4_countFrom_16 : decode cX4_countFrom 16 = .ok (.bipush 8, 2) := by decide +kernel
theorem dX4_countFrom_18 : decode cX4_countFrom 18 = .ok (.imul, 1) := by decide +kernel
theorem dX4_countFrom_19 : decode cX4_countFrom 19 = .ok (.lushr, 1) := by decide +kernel
theorem dX4_countFrom_20 : decode cX4_countFrom 20 = .ok (.l2i, 1) := by decide +kernel
theorem dX4_countFrom_21 : decode cX4_countFrom 21 = .ok (.sipush 255, 3) := by decide +kernel
theorem dX4_countFrom_24 : decode cX4_countFrom 24 = .ok (.iand, 1) := by decide +kernel
theorem dX4_countFrom_25 : decode cX4_countFrom 25 = .ok (.istore 4, 2) := by decide +kernel
theorem dX4_countFrom_27 : decode cX4_countFrom 27 = .ok (.iload_n 1, 1) := by decide +kernel
theorem dX4_countFrom_28 : decode cX4_countFrom 28 = .ok (.aload_n 0, 1) := by decide +kernel
theorem dX4_countFrom_29 : decode cX4_countFrom 29 = .ok (.getfield 25, 3) := by decide +kernel
theorem dX4_countFrom_32 : decode cX4_countFrom 32 = .ok (.iconst 1, 1) := by decide +kernel
theorem dX4_countFrom_33 : decode cX4_countFrom 33 = .ok (.isub, 1) := by decide +kernel
theorem dX4_countFrom_34 : decode cX4_countFrom 34 = .ok (.if_icmp .ne 24, 3) := by decide +kernel
theorem dX4_countFrom_37 : decode cX4_countFrom 37 = .ok (.iload 4, 2) := by decide +kernel
theorem dX4_countFrom_39 : decode cX4_countFrom 39 = .ok (.ifCond .eq 13, 3) := by decide +kernel
theorem dX4_countFrom_42 : decode cX4_countFrom 42 = .ok (.aload_n 0, 1) := by decide +kernel
theorem dX4_countFrom_43 : decode cX4_countFrom 43 = .ok (.iload_n 1, 1) := by decide +kernel
theorem dX4_countFrom_44 : decode cX4_countFrom 44 = .ok (.iload 4, 2) := by decide +kernel
theorem dX4_countFrom_46 : decode cX4_countFrom 46 = .ok (.invokestatic 56, 3) := by decide +kernel
theorem dX4_countFrom_49 : decode cX4_countFrom 49 = .ok (.invokevirtual 62, 3) := by decide +kernel
theorem dX4_countFrom_52 : decode cX4_countFrom 52 = .ok (.iload 4, 2) := by decide +kernel
theorem dX4_countFrom_54 : decode cX4_countFrom 54 = .ok (.invokestatic 66, 3) := by decide +kernel
theorem dX4_countFrom_57 : decode cX4_countFrom 57 = .ok (.ireturn, 1) := by decide +kernel
theorem dX4_countFrom_58 : decode cX4_countFrom 58 = .ok (.iconst 0, 1) := by decide +kernel
theorem dX4_countFrom_59 : decode cX4_countFrom 59 = .ok (.istore 5, 2) := by decide +kernel
theorem dX4_countFrom_61 : decode cX4_countFrom 61 = .ok (.iconst 0, 1) := by decide +kernel
theorem dX4_countFrom_62 : decode cX4_countFrom 62 = .ok (.istore 6, 2) := by decide +kernel
theorem dX4_countFrom_64 : decode cX4_countFrom 64 = .ok (.iload 6, 2) := by decide +kernel
theorem dX4_countFrom_66 : decode cX4_countFrom 66 = .ok (.bipush 8, 2) := by decide +kernel
theorem dX4_countFrom_68 : decode cX4_countFrom 68 = .ok (.if_icmp .ge 64, 3) := by decide +kernel
theorem dX4_countFrom_71 : decode cX4_countFrom 71 = .ok (.iload 4, 2) := by decide +kernel
theorem dX4_countFrom_73 : decode cX4_countFrom 73 = .ok (.iload 6, 2) := by decide +kernel
theorem dX4_countFrom_75 : decode cX4_countFrom 75 = .ok (.ishr, 1) := by decide +kernel
theorem dX4_countFrom_76 : decode cX4_countFrom 76 = .ok (.iconst 1, 1) := by decide +kernel
theorem dX4_countFrom_77 : decode cX4_countFrom 77 = .ok (.iand, 1) := by decide +kernel
theorem dX4_countFrom_78 : decode cX4_countFrom 78 = .ok (.ifCond .ne 6, 3) := by decide +kernel
theorem dX4_countFrom_81 : decode cX4_countFrom 81 = .ok (.goto 45, 3) := by decide +kernel
theorem dX4_countFrom_84 : decode cX4_countFrom 84 = .ok (.aload_n 0, 1) := by decide +kernel
theorem dX4_countFrom_85 : decode cX4_countFrom 85 = .ok (.iload_n 1, 1) := by decide +kernel
theorem dX4_countFrom_86 : decode cX4_countFrom 86 = .ok (.iconst 1, 1) := by decide +kernel
theorem dX4_countFrom_87 : decode cX4_countFrom 87 = .ok (.iadd, 1) := by decide +kernel
theorem dX4_countFrom_88 : decode cX4_countFrom 88 = .ok (.lload_n 2, 1) := by decide +kernel
theorem dX4_countFrom_89 : decode cX4_countFrom 89 = .ok (.aload_n 0, 1) := by decide +kernel
theorem dX4_countFrom_90 : decode cX4_countFrom 90 = .ok (.getfield 9, 3) := by decide +kernel
theorem dX4_countFrom_93 : decode cX4_countFrom 93 = .ok (.iload_n 1, 1) := by decide +kernel
theorem dX4_countFrom_94 : decode cX4_countFrom 94 = .ok (.bipush 8, 2) := by decide +kernel
theorem dX4_countFrom_96 : decode cX4_countFrom 96 = .ok (.imul, 1) := by decide +kernel
theorem dX4_countFrom_97 : decode cX4_countFrom 97 = .ok (.iload 6, 2) := by decide +kernel
theorem dX4_countFrom_99 : decode cX4_countFrom 99 = .ok (.iadd, 1) := by decide +kernel
theorem dX4_countFrom_100 : decode cX4_countFrom 100 = .ok (.laload, 1) := by decide +kernel
theorem dX4_countFrom_101 : decode cX4_countFrom 101 = .ok (.land, 1) := by decide +kernel
theorem dX4_countFrom_102 : decode cX4_countFrom 102 = .ok (.invokestatic 41, 3) := by decide +kernel
theorem dX4_countFrom_105 : decode cX4_countFrom 105 = .ok (.istore 7, 2) := by decide +kernel
theorem dX4_countFrom_107 : decode cX4_countFrom 107 = .ok (.iload 7, 2) := by decide +kernel
theorem dX4_countFrom_109 : decode cX4_countFrom 109 = .ok (.ifCond .le 10, 3) := by decide +kernel
theorem dX4_countFrom_112 : decode cX4_countFrom 112 = .ok (.aload_n 0, 1) := by decide +kernel
theorem dX4_countFrom_113 : decode cX4_countFrom 113 = .ok (.iload_n 1, 1) := by decide +kernel
theorem dX4_countFrom_114 : decode cX4_countFrom 114 = .ok (.iload 6, 2) := by decide +kernel
theorem dX4_countFrom_116 : decode cX4_countFrom 116 = .ok (.invokevirtual 62, 3) := by decide +kernel
theorem dX4_countFrom_119 : decode cX4_countFrom 119 = .ok (.iload 5, 2) := by decide +kernel
theorem dX4_countFrom_121 : decode cX4_countFrom 121 = .ok (.iload 7, 2) := by decide +kernel
theorem dX4_countFrom_123 : decode cX4_countFrom 123 = .ok (.iadd, 1) := by decide +kernel
theorem dX4_countFrom_124 : decode cX4_countFrom 124 = .ok (.istore 5, 2) := by decide +kernel
theorem dX4_countFrom_126 : decode cX4_countFrom 126 = .ok (.iinc 6 1, 3) := by decide +kernel
theorem dX4_countFrom_129 : decode cX4_countFrom 129 = .ok (.goto (-65), 3) := by decide +kernel
theorem dX4_countFrom_132 : decode cX4_countFrom 132 = .ok (.iload 5, 2) := by decide +kernel
theorem dX4_countFrom_134 : decode cX4_countFrom 134 = .ok (.ireturn, 1) := by decide +kernel
theorem dX4_noteFirst_0 : decode cX4_noteFirst 0 = .ok (.aload_n 0, 1) := by decide +kernel
theorem dX4_noteFirst_1 : decode cX4_noteFirst 1 = .ok (.getfield 15, 3) := by decide +kernel
theorem dX4_noteFirst_4 : decode cX4_noteFirst 4 = .ok (.iload_n 1, 1) := by decide +kernel
theorem dX4_noteFirst_5 : decode cX4_noteFirst 5 = .ok (.iaload, 1) := by decide +kernel
theorem dX4_noteFirst_6 : decode cX4_noteFirst 6 = .ok (.bipush (-6), 2) := by decide +kernel
theorem dX4_noteFirst_8 : decode cX4_noteFirst 8 = .ok (.if_icmp .ne 10, 3) := by decide +kernel
theorem dX4_noteFirst_11 : decode cX4_noteFirst 11 = .ok (.aload_n 0, 1) := by decide +kernel
theorem dX4_noteFirst_12 : decode cX4_noteFirst 12 = .ok (.getfield 15, 3) := by decide +kernel
theorem dX4_noteFirst_15 : decode cX4_noteFirst 15 = .ok (.iload_n 1, 1) := by decide +kernel
theorem dX4_noteFirst_16 : decode cX4_noteFirst 16 = .ok (.iload_n 2, 1) := by decide +kernel
theorem dX4_noteFirst_17 : decode cX4_noteFirst 17 = .ok (.iastore, 1) := by decide +kernel
theorem dX4_noteFirst_18 : decode cX4_noteFirst 18 = .ok (.return_, 1) := by decide +kernel
theorem dX5_init_0 : decode cX5_init 0 = .ok (.aload_n 0, 1) := by decide +kernel
theorem dX5_init_1 : decode cX5_init 1 = .ok (.invokespecial 3, 3) := by decide +kernel
theorem dX5_init_4 : decode cX5_init 4 = .ok (.aload_n 0, 1) := by decide +kernel
theorem dX5_init_5 : decode cX5_init 5 = .ok (.iconst 4, 1) := by decide +kernel
theorem dX5_init_6 : decode cX5_init 6 = .ok (.putfield 9, 3) := by decide +kernel
theorem dX5_init_9 : decode cX5_init 9 = .ok (.aload_n 0, 1) := by decide +kernel
theorem dX5_init_10 : decode cX5_init 10 = .ok (.bipush (-6), 2) := by decide +kernel
theorem dX5_init_12 : decode cX5_init 12 = .ok (.putfield 15, 3) := by decide +kernel
theorem dX5_init_15 : decode cX5_init 15 = .ok (.aload_n 0, 1) := by decide +kernel
theorem dX5_init_16 : decode cX5_init 16 = .ok (.new 18, 3) := by decide +kernel
theorem dX5_init_19 : decode cX5_init 19 = .ok (.dup, 1) := by decide +kernel
theorem dX5_init_20 : decode cX5_init 20 = .ok (.invokespecial 20, 3) := by decide +kernel
theorem dX5_init_23 : decode cX5_init 23 = .ok (.putfield 21, 3) := by decide +kernel
theorem dX5_init_26 : decode cX5_init 26 = .ok (.aload_n 0, 1) := by decide +kernel
theorem dX5_init_27 : decode cX5_init 27 = .ok (.new 25, 3) := by decide +kernel
theorem dX5_init_30 : decode cX5_init 30 = .ok (.dup, 1) := by decide +kernel
theorem dX5_init_31 : decode cX5_init 31 = .ok (.invokespecial 27, 3) := by decide +kernel
theorem dX5_init_34 : decode cX5_init 34 = .ok (.putfield 28, 3) := by decide +kernel
theorem dX5_init_37 : decode cX5_init 37 = .ok (.aload_n 0, 1) := by decide +kernel
theorem dX5_init_38 : decode cX5_init 38 = .ok (.new 32, 3) := by decide +kernel
theorem dX5_init_41 : decode cX5_init 41 = .ok (.dup, 1) := by decide +kernel
theorem dX5_init_42 : decode cX5_init 42 = .ok (.invokespecial 34, 3) := by decide +kernel
theorem dX5_init_45 : decode cX5_init 45 = .ok (.putfield 35, 3) := by decide +kernel
theorem dX5_init_48 : decode cX5_init 48 = .ok (.aload_n 0, 1) := by decide +kernel
theorem dX5_init_49 : decode cX5_init 49 = .ok (.new 39, 3) := by decide +kernel
theorem dX5_init_52 : decode cX5_init 52 = .ok (.dup, 1) := by decide +kernel
theorem dX5_init_53 : decode cX5_init 53 = .ok (.invokespecial 41, 3) := by decide +kernel
theorem dX5_init_56 : decode cX5_init 56 = .ok (.putfield 42, 3) := by decide +kernel
theorem dX5_init_59 : decode cX5_init 59 = .ok (.return_, 1) := by decide +kernel
theorem dX5_has_0 : decode cX5_has 0 = .ok (.iload_n 1, 1) := by decide +kernel
theorem dX5_has_1 : decode cX5_has 1 = .ok (.ifCond .lt 15, 3) := by decide +kernel
theorem dX5_has_4 : decode cX5_has 4 = .ok (.iload_n 1, 1) := by decide +kernel
theorem dX5_has_5 : decode cX5_has 5 = .ok (.aload_n 0, 1) := by decide +kernel
theorem dX5_has_6 : decode cX5_has 6 = .ok (.getfield 9, 3) := by decide +kernel
theorem dX5_has_9 : decode cX5_has 9 = .ok (.if_icmp .ge 7, 3) := by decide +kernel
theorem dX5_has_12 : decode cX5_has 12 = .ok (.iconst 1, 1) := by decide +kernel
theorem dX5_has_13 : decode cX5_has 13 = .ok (.goto 4, 3) := by decide +kernel
theorem dX5_has_16 : decode cX5_has 16 = .ok (.iconst 0, 1) := by decide +kernel
theorem dX5_has_17 : decode cX5_has 17 = .ok (.ireturn, 1) := by decide +kernel
theorem dX5_everybody_0 : decode cX5_everybody 0 = .ok (.iconst 1, 1) := by decide +kernel
theorem dX5_everybody_1 : decode cX5_everybody 1 = .ok (.aload_n 0, 1) := by decide +kernel
theorem dX5_everybody_2 : decode cX5_everybody 2 = .ok (.getfield 9, 3) := by decide +kernel
theorem dX5_everybody_5 : decode cX5_everybody 5 = .ok (.ishl, 1) := by decide +kernel
theorem dX5_everybody_6 : decode cX5_everybody 6 = .ok (.iconst 1, 1) := by decide +kernel
theorem dX5_everybody_7 : decode cX5_everybody 7 = .ok (.isub, 1) := by decide +kernel
theorem dX5_everybody_8 : decode cX5_everybody 8 = .ok (.ireturn, 1) := by decide +kernel
theorem dX5_gather_0 : decode cX5_gather 0 = .ok (.aload_n 0, 1) := by decide +kernel
theorem dX5_gather_1 : decode cX5_gather 1 = .ok (.getfield 9, 3) := by decide +kernel
theorem dX5_gather_4 : decode cX5_gather 4 = .ok (.istore_n 2, 1) := by decide +kernel
theorem dX5_gather_5 : decode cX5_gather 5 = .ok (.aload_n 0, 1) := by decide +kernel
theorem dX5_gather_6 : decode cX5_gather 6 = .ok (.iload_n 1, 1) := by decide +kernel
theorem dX5_gather_7 : decode cX5_gather 7 = .ok (.putfield 9, 3) := by decide +kernel
theorem dX5_gather_10 : decode cX5_gather 10 = .ok (.aload_n 0, 1) := by decide +kernel
theorem dX5_gather_11 : decode cX5_gather 11 = .ok (.bipush (-6), 2) := by decide +kernel
theorem dX5_gather_13 : decode cX5_gather 13 = .ok (.putfield 15, 3) := by decide +kernel
theorem dX5_gather_16 : decode cX5_gather 16 = .ok (.aload_n 0, 1) := by decide +kernel
theorem dX5_gather_17 : decode cX5_gather 17 = .ok (.getfield 21, 3) := by decide +kernel
theorem dX5_gather_20 : decode cX5_gather 20 = .ok (.invokevirtual 46, 3) := by decide +kernel
theorem dX5_gather_23 : decode cX5_gather 23 = .ok (.aload_n 0, 1) := by decide +kernel
theorem dX5_gather_24 : decode cX5_gather 24 = .ok (.getfield 28, 3) := by decide +kernel
theorem dX5_gather_27 : decode cX5_gather 27 = .ok (.invokevirtual 49, 3) := by decide +kernel
theorem dX5_gather_30 : decode cX5_gather 30 = .ok (.aload_n 0, 1) := by decide +kernel
theorem dX5_gather_31 : decode cX5_gather 31 = .ok (.getfield 35, 3) := by decide +kernel
theorem dX5_gather_34 : decode cX5_gather 34 = .ok (.invokevirtual 50, 3) := by decide +kernel
theorem dX5_gather_37 : decode cX5_gather 37 = .ok (.aload_n 0, 1) := by decide +kernel
theorem dX5_gather_38 : decode cX5_gather 38 = .ok (.getfield 42, 3) := by decide +kernel
theorem dX5_gather_41 : decode cX5_gather 41 = .ok (.invokevirtual 51, 3) := by decide +kernel
theorem dX5_gather_44 : decode cX5_gather 44 = .ok (.iload_n 2, 1) := by decide +kernel
theorem dX5_gather_45 : decode cX5_gather 45 = .ok (.ireturn, 1) := by decide +kernel
theorem dX5_copyFrom_0 : decode cX5_copyFrom 0 = .ok (.aload_n 0, 1) := by decide +kernel
theorem dX5_copyFrom_1 : decode cX5_copyFrom 1 = .ok (.aload_n 1, 1) := by decide +kernel
theorem dX5_copyFrom_2 : decode cX5_copyFrom 2 = .ok (.getfield 9, 3) := by decide +kernel
theorem dX5_copyFrom_5 : decode cX5_copyFrom 5 = .ok (.putfield 9, 3) := by decide +kernel
theorem dX5_copyFrom_8 : decode cX5_copyFrom 8 = .ok (.aload_n 0, 1) := by decide +kernel
theorem dX5_copyFrom_9 : decode cX5_copyFrom 9 = .ok (.aload_n 1, 1) := by decide +kernel
theorem dX5_copyFrom_10 : decode cX5_copyFrom 10 = .ok (.getfield 15, 3) := by decide +kernel
theorem dX5_copyFrom_13 : decode cX5_copyFrom 13 = .ok (.putfield 15, 3) := by decide +kernel
theorem dX5_copyFrom_16 : decode cX5_copyFrom 16 = .ok (.aload_n 0, 1) := by decide +kernel
theorem dX5_copyFrom_17 : decode cX5_copyFrom 17 = .ok (.getfield 21, 3) := by decide +kernel
theorem dX5_copyFrom_20 : decode cX5_copyFrom 20 = .ok (.aload_n 1, 1) := by decide +kernel
theorem dX5_copyFrom_21 : decode cX5_copyFrom 21 = .ok (.getfield 21, 3) := by decide +kernel
theorem dX5_copyFrom_24 : decode cX5_copyFrom 24 = .ok (.invokevirtual 52, 3) := by decide +kernel
theorem dX5_copyFrom_27 : decode cX5_copyFrom 27 = .ok (.aload_n 0, 1) := by decide +kernel
theorem dX5_copyFrom_28 : decode cX5_copyFrom 28 = .ok (.getfield 28, 3) := by decide +kernel
theorem dX5_copyFrom_31 : decode cX5_copyFrom 31 = .ok (.aload_n 1, 1) := by decide +kernel
theorem dX5_copyFrom_32 : decode cX5_copyFrom 32 = .ok (.getfield 28, 3) := by decide +kernel
theorem dX5_copyFrom_35 : decode cX5_copyFrom 35 = .ok (.invokevirtual 56, 3) := by decide +kernel
theorem dX5_copyFrom_38 : decode cX5_copyFrom 38 = .ok (.aload_n 0, 1) := by decide +kernel
theorem dX5_copyFrom_39 : decode cX5_copyFrom 39 = .ok (.getfield 35, 3) := by decide +kernel
theorem dX5_copyFrom_42 : decode cX5_copyFrom 42 = .ok (.aload_n 1, 1) := by decide +kernel
theorem dX5_copyFrom_43 : decode cX5_copyFrom 43 = .ok (.getfield 35, 3) := by decide +kernel
theorem dX5_copyFrom_46 : decode cX5_copyFrom 46 = .ok (.invokevirtual 59, 3) := by decide +kernel
theorem dX5_copyFrom_49 : decode cX5_copyFrom 49 = .ok (.aload_n 0, 1) := by decide +kernel
theorem dX5_copyFrom_50 : decode cX5_copyFrom 50 = .ok (.getfield 42, 3) := by decide +kernel
theorem dX5_copyFrom_53 : decode cX5_copyFrom 53 = .ok (.aload_n 1, 1) := by decide +kernel
theorem dX5_copyFrom_54 : decode cX5_copyFrom 54 = .ok (.getfield 42, 3) := by decide +kernel
theorem dX5_copyFrom_57 : decode cX5_copyFrom 57 = .ok (.invokevirtual 62, 3) := by decide +kernel
theorem dX5_copyFrom_60 : decode cX5_copyFrom 60 = .ok (.return_, 1) := by decide +kernel
theorem dX6_init_0 : decode cX6_init 0 = .ok (.aload_n 0, 1) := by decide +kernel
theorem dX6_init_1 : decode cX6_init 1 = .ok (.invokespecial 3, 3) := by decide +kernel
theorem dX6_init_4 : decode cX6_init 4 = .ok (.aload_n 0, 1) := by decide +kernel
theorem dX6_init_5 : decode cX6_init 5 = .ok (.bipush 80, 2) := by decide +kernel
theorem dX6_init_7 : decode cX6_init 7 = .ok (.newarray .int, 2) := by decide +kernel
theorem dX6_init_9 : decode cX6_init 9 = .ok (.putfield 9, 3) := by decide +kernel
theorem dX6_init_12 : decode cX6_init 12 = .ok (.aload_n 0, 1) := by decide +kernel
theorem dX6_init_13 : decode cX6_init 13 = .ok (.bipush 10, 2) := by decide +kernel
theorem dX6_init_15 : decode cX6_init 15 = .ok (.newarray .int, 2) := by decide +kernel
theorem dX6_init_17 : decode cX6_init 17 = .ok (.putfield 15, 3) := by decide +kernel
theorem dX6_init_20 : decode cX6_init 20 = .ok (.return_, 1) := by decide +kernel
theorem dX6_startPeople_0 : decode cX6_startPeople 0 = .ok (.aload_n 0, 1) := by decide +kernel
theorem dX6_startPeople_1 : decode cX6_startPeople 1 = .ok (.iconst 0, 1) := by decide +kernel
theorem dX6_startPeople_2 : decode cX6_startPeople 2 = .ok (.putfield 18, 3) := by decide +kernel
theorem dX6_startPeople_5 : decode cX6_startPeople 5 = .ok (.aload_n 0, 1) := by decide +kernel
theorem dX6_startPeople_6 : decode cX6_startPeople 6 = .ok (.iconst 0, 1) := by decide +kernel
theorem dX6_startPeople_7 : decode cX6_startPeople 7 = .ok (.putfield 22, 3) := by decide +kernel
theorem dX6_startPeople_10 : decode cX6_startPeople 10 = .ok (.return_, 1) := by decide +kernel
theorem dX6_copyFrom_0 : decode cX6_copyFrom 0 = .ok (.aload_n 0, 1) := by decide +kernel
theorem dX6_copyFrom_1 : decode cX6_copyFrom 1 = .ok (.aload_n 1, 1) := by decide +kernel
theorem dX6_copyFrom_2 : decode cX6_copyFrom 2 = .ok (.getfield 18, 3) := by decide +kernel
theorem dX6_copyFrom_5 : decode cX6_copyFrom 5 = .ok (.putfield 18, 3) := by decide +kernel
theorem dX6_copyFrom_8 : decode cX6_copyFrom 8 = .ok (.aload_n 0, 1) := by decide +kernel
theorem dX6_copyFrom_9 : decode cX6_copyFrom 9 = .ok (.aload_n 1, 1) := by decide +kernel
theorem dX6_copyFrom_10 : decode cX6_copyFrom 10 = .ok (.getfield 22, 3) := by decide +kernel
theorem dX6_copyFrom_13 : decode cX6_copyFrom 13 = .ok (.putfield 22, 3) := by decide +kernel
theorem dX6_copyFrom_16 : decode cX6_copyFrom 16 = .ok (.aload_n 1, 1) := by decide +kernel
theorem dX6_copyFrom_17 : decode cX6_copyFrom 17 = .ok (.getfield 9, 3) := by decide +kernel
theorem dX6_copyFrom_20 : decode cX6_copyFrom 20 = .ok (.iconst 0, 1) := by decide +kernel
theorem dX6_copyFrom_21 : decode cX6_copyFrom 21 = .ok (.aload_n 0, 1) := by decide +kernel
theorem dX6_copyFrom_22 : decode cX6_copyFrom 22 = .ok (.getfield 9, 3) := by decide +kernel
theorem dX6_copyFrom_25 : decode cX6_copyFrom 25 = .ok (.iconst 0, 1) := by decide +kernel
theorem dX6_copyFrom_26 : decode cX6_copyFrom 26 = .ok (.bipush 80, 2) := by decide +kernel
theorem dX6_copyFrom_28 : decode cX6_copyFrom 28 = .ok (.invokestatic 25, 3) := by decide +kernel
theorem dX6_copyFrom_31 : decode cX6_copyFrom 31 = .ok (.aload_n 1, 1) := by decide +kernel
theorem dX6_copyFrom_32 : decode cX6_copyFrom 32 = .ok (.getfield 15, 3) := by decide +kernel
theorem dX6_copyFrom_35 : decode cX6_copyFrom 35 = .ok (.iconst 0, 1) := by decide +kernel
theorem dX6_copyFrom_36 : decode cX6_copyFrom 36 = .ok (.aload_n 0, 1) := by decide +kernel
theorem dX6_copyFrom_37 : decode cX6_copyFrom 37 = .ok (.getfield 15, 3) := by decide +kernel
theorem dX6_copyFrom_40 : decode cX6_copyFrom 40 = .ok (.iconst 0, 1) := by decide +kernel
theorem dX6_copyFrom_41 : decode cX6_copyFrom 41 = .ok (.bipush 10, 2) := by decide +kernel
theorem dX6_copyFrom_43 : decode cX6_copyFrom 43 = .ok (.invokestatic 25, 3) := by decide +kernel
theorem dX6_copyFrom_46 : decode cX6_copyFrom 46 = .ok (.return_, 1) := by decide +kernel
theorem dX6_isFull_0 : decode cX6_isFull 0 = .ok (.aload_n 0, 1) := by decide +kernel
theorem dX6_isFull_1 : decode cX6_isFull 1 = .ok (.getfield 18, 3) := by decide +kernel
theorem dX6_isFull_4 : decode cX6_isFull 4 = .ok (.bipush 10, 2) := by decide +kernel
theorem dX6_isFull_6 : decode cX6_isFull 6 = .ok (.if_icmp .lt 7, 3) := by decide +kernel
theorem dX6_isFull_9 : decode cX6_isFull 9 = .ok (.iconst 1, 1) := by decide +kernel
theorem dX6_isFull_10 : decode cX6_isFull 10 = .ok (.goto 4, 3) := by decide +kernel
theorem dX6_isFull_13 : decode cX6_isFull 13 = .ok (.iconst 0, 1) := by decide +kernel
theorem dX6_isFull_14 : decode cX6_isFull 14 = .ok (.ireturn, 1) := by decide +kernel
theorem dX6_has_0 : decode cX6_has 0 = .ok (.iload_n 1, 1) := by decide +kernel
theorem dX6_has_1 : decode cX6_has 1 = .ok (.ifCond .lt 15, 3) := by decide +kernel
theorem dX6_has_4 : decode cX6_has 4 = .ok (.iload_n 1, 1) := by decide +kernel
theorem dX6_has_5 : decode cX6_has 5 = .ok (.aload_n 0, 1) := by decide +kernel
theorem dX6_has_6 : decode cX6_has 6 = .ok (.getfield 18, 3) := by decide +kernel
theorem dX6_has_9 : decode cX6_has 9 = .ok (.if_icmp .ge 7, 3) := by decide +kernel
theorem dX6_has_12 : decode cX6_has 12 = .ok (.iconst 1, 1) := by decide +kernel
theorem dX6_has_13 : decode cX6_has 13 = .ok (.goto 4, 3) := by decide +kernel
theorem dX6_has_16 : decode cX6_has 16 = .ok (.iconst 0, 1) := by decide +kernel
theorem dX6_has_17 : decode cX6_has 17 = .ok (.ireturn, 1) := by decide +kernel
theorem dX6_take_0 : decode cX6_take 0 = .ok (.aload_n 0, 1) := by decide +kernel
theorem dX6_take_1 : decode cX6_take 1 = .ok (.invokevirtual 31, 3) := by decide +kernel
theorem dX6_take_4 : decode cX6_take 4 = .ok (.ifCond .eq 6, 3) := by decide +kernel
theorem dX6_take_7 : decode cX6_take 7 = .ok (.bipush (-6), 2) := by decide +kernel
theorem dX6_take_9 : decode cX6_take 9 = .ok (.ireturn, 1) := by decide +kernel
theorem dX6_take_10 : decode cX6_take 10 = .ok (.aload_n 0, 1) := by decide +kernel
theorem dX6_take_11 : decode cX6_take 11 = .ok (.getfield 18, 3) := by decide +kernel
theorem dX6_take_14 : decode cX6_take 14 = .ok (.istore_n 3, 1) := by decide +kernel
theorem dX6_take_15 : decode cX6_take 15 = .ok (.aload_n 0, 1) := by decide +kernel
theorem dX6_take_16 : decode cX6_take 16 = .ok (.getfield 15, 3) := by decide +kernel
theorem dX6_take_19 : decode cX6_take 19 = .ok (.iload_n 3, 1) := by decide +kernel
theorem dX6_take_20 : decode cX6_take 20 = .ok (.iconst 0, 1) := by decide +kernel
theorem dX6_take_21 : decode cX6_take 21 = .ok (.iastore, 1) := by decide +kernel
theorem dX6_take_22 : decode cX6_take 22 = .ok (.iconst 0, 1) := by decide +kernel
theorem dX6_take_23 : decode cX6_take 23 = .ok (.istore 4, 2) := by decide +kernel
theorem dX6_take_25 : decode cX6_take 25 = .ok (.iload 4, 2) := by decide +kernel
theorem dX6_take_27 : decode cX6_take 27 = .ok (.iload_n 2, 1) := by decide +kernel
theorem dX6_take_28 : decode cX6_take 28 = .ok (.if_icmp .ge 51, 3) := by decide +kernel
theorem dX6_take_31 : decode cX6_take 31 = .ok (.aload_n 1, 1) := by decide +kernel
theorem dX6_take_32 : decode cX6_take 32 = .ok (.iload 4, 2) := by decide +kernel
theorem dX6_take_34 : decode cX6_take 34 = .ok (.invokevirtual 35, 3) := by decide +kernel
theorem dX6_take_37 : decode cX6_take 37 = .ok (.istore 5, 2) := by decide +kernel
theorem dX6_take_39 : decode cX6_take 39 = .ok (.aload_n 0, 1) := by decide +kernel
theorem dX6_take_40 : decode cX6_take 40 = .ok (.getfield 9, 3) := by decide +kernel
theorem dX6_take_43 : decode cX6_take 43 = .ok (.iload_n 3, 1) := by decide +kernel
theorem dX6_take_44 : decode cX6_take 44 = .ok (.bipush 8, 2) := by decide +kernel
theorem dX6_take_46 : decode cX6_take 46 = .ok (.imul, 1) := by decide +kernel
theorem dX6_take_47 : decode cX6_take 47 = .ok (.iload 4, 2) := by decide +kernel
theorem dX6_take_49 : decode cX6_take 49 = .ok (.iadd, 1) := by decide +kernel
theorem dX6_take_50 : decode cX6_take 50 = .ok (.iload 5, 2) := by decide +kernel
theorem dX6_take_52 : decode cX6_take 52 = .ok (.iastore, 1) := by decide +kernel
theorem dX6_take_53 : decode cX6_take 53 = .ok (.iload 5, 2) := by decide +kernel
