theorem dX9_say_46 : decode cX9_say 46 = .ok (.putfield 96, 3) := by decide +kernel
theorem dX9_say_49 : decode cX9_say 49 = .ok (.aload_n 0, 1) := by decide +kernel
theorem dX9_say_50 : decode cX9_say 50 = .ok (.getfield 96, 3) := by decide +kernel
theorem dX9_say_53 : decode cX9_say 53 = .ok (.ireturn, 1) := by decide +kernel
theorem dX9_wipe_0 : decode cX9_wipe 0 = .ok (.aload_n 0, 1) := by decide +kernel
theorem dX9_wipe_1 : decode cX9_wipe 1 = .ok (.getfield 96, 3) := by decide +kernel
theorem dX9_wipe_4 : decode cX9_wipe 4 = .ok (.istore_n 1, 1) := by decide +kernel
theorem dX9_wipe_5 : decode cX9_wipe 5 = .ok (.aload_n 0, 1) := by decide +kernel
theorem dX9_wipe_6 : decode cX9_wipe 6 = .ok (.iconst 0, 1) := by decide +kernel
theorem dX9_wipe_7 : decode cX9_wipe 7 = .ok (.putfield 96, 3) := by decide +kernel
theorem dX9_wipe_10 : decode cX9_wipe 10 = .ok (.iload_n 1, 1) := by decide +kernel
theorem dX9_wipe_11 : decode cX9_wipe 11 = .ok (.ireturn, 1) := by decide +kernel
theorem dX9_isLook_0 : decode cX9_isLook 0 = .ok (.iload_n 0, 1) := by decide +kernel
theorem dX9_isLook_1 : decode cX9_isLook 1 = .ok (.bipush 111, 2) := by decide +kernel
theorem dX9_isLook_3 : decode cX9_isLook 3 = .ok (.if_icmp .eq 21, 3) := by decide +kernel
theorem dX9_isLook_6 : decode cX9_isLook 6 = .ok (.iload_n 0, 1) := by decide +kernel
theorem dX9_isLook_7 : decode cX9_isLook 7 = .ok (.bipush 115, 2) := by decide +kernel
theorem dX9_isLook_9 : decode cX9_isLook 9 = .ok (.if_icmp .eq 15, 3) := by decide +kernel
theorem dX9_isLook_12 : decode cX9_isLook 12 = .ok (.iload_n 0, 1) := by decide +kernel
theorem dX9_isLook_13 : decode cX9_isLook 13 = .ok (.bipush 116, 2) := by decide +kernel
theorem dX9_isLook_15 : decode cX9_isLook 15 = .ok (.if_icmp .eq 9, 3) := by decide +kernel
theorem dX9_isLook_18 : decode cX9_isLook 18 = .ok (.iload_n 0, 1) := by decide +kernel
theorem dX9_isLook_19 : decode cX9_isLook 19 = .ok (.bipush 104, 2) := by decide +kernel
theorem dX9_isLook_21 : decode cX9_isLook 21 = .ok (.if_icmp .ne 7, 3) := by decide +kernel
theorem dX9_isLook_24 : decode cX9_isLook 24 = .ok (.iconst 1, 1) := by decide +kernel
theorem dX9_isLook_25 : decode cX9_isLook 25 = .ok (.goto 4, 3) := by decide +kernel
theorem dX9_isLook_28 : decode cX9_isLook 28 = .ok (.iconst 0, 1) := by decide +kernel
theorem dX9_isLook_29 : decode cX9_isLook 29 = .ok (.ireturn, 1) := by decide +kernel
theorem dX9_places_0 : decode cX9_places 0 = .ok (.aload_n 0, 1) := by decide +kernel
theorem dX9_places_1 : decode cX9_places 1 = .ok (.getfield 54, 3) := by decide +kernel
theorem dX9_places_4 : decode cX9_places 4 = .ok (.aload_n 0, 1) := by decide +kernel
theorem dX9_places_5 : decode cX9_places 5 = .ok (.getfield 57, 3) := by decide +kernel
theorem dX9_places_8 : decode cX9_places 8 = .ok (.imul, 1) := by decide +kernel
theorem dX9_places_9 : decode cX9_places 9 = .ok (.ireturn, 1) := by decide +kernel
theorem dX9_faultOfShot_0 : decode cX9_faultOfShot 0 = .ok (.iconst 0, 1) := by decide +kernel
theorem dX9_faultOfShot_1 : decode cX9_faultOfShot 1 = .ok (.istore_n 1, 1) := by decide +kernel
theorem dX9_faultOfShot_2 : decode cX9_faultOfShot 2 = .ok (.iload_n 1, 1) := by decide +kernel
theorem dX9_faultOfShot_3 : decode cX9_faultOfShot 3 = .ok (.aload_n 0, 1) := by decide +kernel
theorem dX9_faultOfShot_4 : decode cX9_faultOfShot 4 = .ok (.getfield 96, 3) := by decide +kernel
theorem dX9_faultOfShot_7 : decode cX9_faultOfShot 7 = .ok (.if_icmp .ge 31, 3) := by decide +kernel
theorem dX9_faultOfShot_10 : decode cX9_faultOfShot 10 = .ok (.iload_n 1, 1) := by decide +kernel
theorem dX9_faultOfShot_11 : decode cX9_faultOfShot 11 = .ok (.aload_n 0, 1) := by decide +kernel
theorem dX9_faultOfShot_12 : decode cX9_faultOfShot 12 = .ok (.getfield 70, 3) := by decide +kernel
theorem dX9_faultOfShot_15 : decode cX9_faultOfShot 15 = .ok (.if_icmp .eq 15, 3) := by decide +kernel
theorem dX9_faultOfShot_18 : decode cX9_faultOfShot 18 = .ok (.aload_n 0, 1) := by decide +kernel
theorem dX9_faultOfShot_19 : decode cX9_faultOfShot 19 = .ok (.getfield 31, 3) := by decide +kernel
theorem dX9_faultOfShot_22 : decode cX9_faultOfShot 22 = .ok (.iload_n 1, 1) := by decide +kernel
theorem dX9_faultOfShot_23 : decode cX9_faultOfShot 23 = .ok (.iaload, 1) := by decide +kernel
theorem dX9_faultOfShot_24 : decode cX9_faultOfShot 24 = .ok (.invokestatic 99, 3) := by decide +kernel
theorem dX9_faultOfShot_27 : decode cX9_faultOfShot 27 = .ok (.ifCond .ne 5, 3) := by decide +kernel
theorem dX9_faultOfShot_30 : decode cX9_faultOfShot 30 = .ok (.iload_n 1, 1) := by decide +kernel
theorem dX9_faultOfShot_31 : decode cX9_faultOfShot 31 = .ok (.ireturn, 1) := by decide +kernel
theorem dX9_faultOfShot_32 : decode cX9_faultOfShot 32 = .ok (.iinc 1 1, 3) := by decide +kernel
theorem dX9_faultOfShot_35 : decode cX9_faultOfShot 35 = .ok (.goto (-33), 3) := by decide +kernel
theorem dX9_faultOfShot_38 : decode cX9_faultOfShot 38 = .ok (.aload_n 0, 1) := by decide +kernel
theorem dX9_faultOfShot_39 : decode cX9_faultOfShot 39 = .ok (.getfield 96, 3) := by decide +kernel
theorem dX9_faultOfShot_42 : decode cX9_faultOfShot 42 = .ok (.aload_n 0, 1) := by decide +kernel
theorem dX9_faultOfShot_43 : decode cX9_faultOfShot 43 = .ok (.getfield 70, 3) := by decide +kernel
theorem dX9_faultOfShot_46 : decode cX9_faultOfShot 46 = .ok (.if_icmp .ge 10, 3) := by decide +kernel
theorem dX9_faultOfShot_49 : decode cX9_faultOfShot 49 = .ok (.aload_n 0, 1) := by decide +kernel
theorem dX9_faultOfShot_50 : decode cX9_faultOfShot 50 = .ok (.getfield 96, 3) := by decide +kernel
theorem dX9_faultOfShot_53 : decode cX9_faultOfShot 53 = .ok (.goto 5, 3) := by decide +kernel
theorem dX9_faultOfShot_56 : decode cX9_faultOfShot 56 = .ok (.bipush (-6), 2) := by decide +kernel
theorem dX9_faultOfShot_58 : decode cX9_faultOfShot 58 = .ok (.ireturn, 1) := by decide +kernel
theorem dX9_faultOfStanding_0 : decode cX9_faultOfStanding 0 = .ok (.iconst 0, 1) := by decide +kernel
theorem dX9_faultOfStanding_1 : decode cX9_faultOfStanding 1 = .ok (.istore_n 1, 1) := by decide +kernel
theorem dX9_faultOfStanding_2 : decode cX9_faultOfStanding 2 = .ok (.iconst 0, 1) := by decide +kernel
theorem dX9_faultOfStanding_3 : decode cX9_faultOfStanding 3 = .ok (.istore_n 2, 1) := by decide +kernel
theorem dX9_faultOfStanding_4 : decode cX9_faultOfStanding 4 = .ok (.iload_n 2, 1) := by decide +kernel
theorem dX9_faultOfStanding_5 : decode cX9_faultOfStanding 5 = .ok (.aload_n 0, 1) := by decide +kernel
theorem dX9_faultOfStanding_6 : decode cX9_faultOfStanding 6 = .ok (.getfield 96, 3) := by decide +kernel
theorem dX9_faultOfStanding_9 : decode cX9_faultOfStanding 9 = .ok (.if_icmp .ge 60, 3) := by decide +kernel
theorem dX9_faultOfStanding_12 : decode cX9_faultOfStanding 12 = .ok (.aload_n 0, 1) := by decide +kernel
theorem dX9_faultOfStanding_13 : decode cX9_faultOfStanding 13 = .ok (.getfield 31, 3) := by decide +kernel
theorem dX9_faultOfStanding_16 : decode cX9_faultOfStanding 16 = .ok (.iload_n 2, 1) := by decide +kernel
theorem dX9_faultOfStanding_17 : decode cX9_faultOfStanding 17 = .ok (.iaload, 1) := by decide +kernel
theorem dX9_faultOfStanding_18 : decode cX9_faultOfStanding 18 = .ok (.bipush 48, 2) := by decide +kernel
theorem dX9_faultOfStanding_20 : decode cX9_faultOfStanding 20 = .ok (.isub, 1) := by decide +kernel
theorem dX9_faultOfStanding_21 : decode cX9_faultOfStanding 21 = .ok (.istore_n 3, 1) := by decide +kernel
theorem dX9_faultOfStanding_22 : decode cX9_faultOfStanding 22 = .ok (.iload_n 2, 1) := by decide +kernel
theorem dX9_faultOfStanding_23 : decode cX9_faultOfStanding 23 = .ok (.aload_n 0, 1) := by decide +kernel
theorem dX9_faultOfStanding_24 : decode cX9_faultOfStanding 24 = .ok (.getfield 70, 3) := by decide +kernel
theorem dX9_faultOfStanding_27 : decode cX9_faultOfStanding 27 = .ok (.if_icmp .eq 28, 3) := by decide +kernel
theorem dX9_faultOfStanding_30 : decode cX9_faultOfStanding 30 = .ok (.iload_n 3, 1) := by decide +kernel
theorem dX9_faultOfStanding_31 : decode cX9_faultOfStanding 31 = .ok (.i2l, 1) := by decide +kernel
theorem dX9_faultOfStanding_32 : decode cX9_faultOfStanding 32 = .ok (.lconst 0, 1) := by decide +kernel
theorem dX9_faultOfStanding_33 : decode cX9_faultOfStanding 33 = .ok (.aload_n 0, 1) := by decide +kernel
theorem dX9_faultOfStanding_34 : decode cX9_faultOfStanding 34 = .ok (.invokevirtual 102, 3) := by decide +kernel
theorem dX9_faultOfStanding_37 : decode cX9_faultOfStanding 37 = .ok (.iconst 1, 1) := by decide +kernel
theorem dX9_faultOfStanding_38 : decode cX9_faultOfStanding 38 = .ok (.isub, 1) := by decide +kernel
theorem dX9_faultOfStanding_39 : decode cX9_faultOfStanding 39 = .ok (.i2l, 1) := by decide +kernel
theorem dX9_faultOfStanding_40 : decode cX9_faultOfStanding 40 = .ok (.invokestatic 82, 3) := by decide +kernel
theorem dX9_faultOfStanding_43 : decode cX9_faultOfStanding 43 = .ok (.ifCond .eq 12, 3) := by decide +kernel
theorem dX9_faultOfStanding_46 : decode cX9_faultOfStanding 46 = .ok (.iload_n 1, 1) := by decide +kernel
theorem dX9_faultOfStanding_47 : decode cX9_faultOfStanding 47 = .ok (.iload_n 3, 1) := by decide +kernel
theorem dX9_faultOfStanding_48 : decode cX9_faultOfStanding 48 = .ok (.ishr, 1) := by decide +kernel
theorem dX9_faultOfStanding_49 : decode cX9_faultOfStanding 49 = .ok (.iconst 1, 1) := by decide +kernel
theorem dX9_faultOfStanding_50 : decode cX9_faultOfStanding 50 = .ok (.iand, 1) := by decide +kernel
theorem dX9_faultOfStanding_51 : decode cX9_faultOfStanding 51 = .ok (.iconst 1, 1) := by decide +kernel
theorem dX9_faultOfStanding_52 : decode cX9_faultOfStanding 52 = .ok (.if_icmp .ne 5, 3) := by decide +kernel
theorem dX9_faultOfStanding_55 : decode cX9_faultOfStanding 55 = .ok (.iload_n 2, 1) := by decide +kernel
theorem dX9_faultOfStanding_56 : decode cX9_faultOfStanding 56 = .ok (.ireturn, 1) := by decide +kernel
theorem dX9_faultOfStanding_57 : decode cX9_faultOfStanding 57 = .ok (.iload_n 1, 1) := by decide +kernel
theorem dX9_faultOfStanding_58 : decode cX9_faultOfStanding 58 = .ok (.iconst 1, 1) := by decide +kernel
theorem dX9_faultOfStanding_59 : decode cX9_faultOfStanding 59 = .ok (.iload_n 3, 1) := by decide +kernel
theorem dX9_faultOfStanding_60 : decode cX9_faultOfStanding 60 = .ok (.ishl, 1) := by decide +kernel
theorem dX9_faultOfStanding_61 : decode cX9_faultOfStanding 61 = .ok (.ior, 1) := by decide +kernel
theorem dX9_faultOfStanding_62 : decode cX9_faultOfStanding 62 = .ok (.istore_n 1, 1) := by decide +kernel
theorem dX9_faultOfStanding_63 : decode cX9_faultOfStanding 63 = .ok (.iinc 2 1, 3) := by decide +kernel
theorem dX9_faultOfStanding_66 : decode cX9_faultOfStanding 66 = .ok (.goto (-62), 3) := by decide +kernel
theorem dX9_faultOfStanding_69 : decode cX9_faultOfStanding 69 = .ok (.aload_n 0, 1) := by decide +kernel
theorem dX9_faultOfStanding_70 : decode cX9_faultOfStanding 70 = .ok (.getfield 96, 3) := by decide +kernel
theorem dX9_faultOfStanding_73 : decode cX9_faultOfStanding 73 = .ok (.aload_n 0, 1) := by decide +kernel
theorem dX9_faultOfStanding_74 : decode cX9_faultOfStanding 74 = .ok (.getfield 70, 3) := by decide +kernel
theorem dX9_faultOfStanding_77 : decode cX9_faultOfStanding 77 = .ok (.if_icmp .ge 10, 3) := by decide +kernel
theorem dX9_faultOfStanding_80 : decode cX9_faultOfStanding 80 = .ok (.aload_n 0, 1) := by decide +kernel
theorem dX9_faultOfStanding_81 : decode cX9_faultOfStanding 81 = .ok (.getfield 96, 3) := by decide +kernel
theorem dX9_faultOfStanding_84 : decode cX9_faultOfStanding 84 = .ok (.goto 5, 3) := by decide +kernel
theorem dX9_faultOfStanding_87 : decode cX9_faultOfStanding 87 = .ok (.bipush (-6), 2) := by decide +kernel
theorem dX9_faultOfStanding_89 : decode cX9_faultOfStanding 89 = .ok (.ireturn, 1) := by decide +kernel
theorem dX9_fault_0 : decode cX9_fault 0 = .ok (.iload_n 1, 1) := by decide +kernel
theorem dX9_fault_1 : decode cX9_fault 1 = .ok (.ifCond .ne 10, 3) := by decide +kernel
theorem dX9_fault_4 : decode cX9_fault 4 = .ok (.aload_n 0, 1) := by decide +kernel
theorem dX9_fault_5 : decode cX9_fault 5 = .ok (.invokevirtual 106, 3) := by decide +kernel
theorem dX9_fault_8 : decode cX9_fault 8 = .ok (.goto 17, 3) := by decide +kernel
theorem dX9_fault_11 : decode cX9_fault 11 = .ok (.iload_n 1, 1) := by decide +kernel
theorem dX9_fault_12 : decode cX9_fault 12 = .ok (.iconst 1, 1) := by decide +kernel
theorem dX9_fault_13 : decode cX9_fault 13 = .ok (.if_icmp .ne 10, 3) := by decide +kernel
theorem dX9_fault_16 : decode cX9_fault 16 = .ok (.aload_n 0, 1) := by decide +kernel
theorem dX9_fault_17 : decode cX9_fault 17 = .ok (.invokevirtual 109, 3) := by decide +kernel
theorem dX9_fault_20 : decode cX9_fault 20 = .ok (.goto 5, 3) := by decide +kernel
theorem dX9_fault_23 : decode cX9_fault 23 = .ok (.bipush (-2), 2) := by decide +kernel
theorem dX9_fault_25 : decode cX9_fault 25 = .ok (.ireturn, 1) := by decide +kernel
theorem dX9_shot_0 : decode cX9_shot 0 = .ok (.aload_n 0, 1) := by decide +kernel
theorem dX9_shot_1 : decode cX9_shot 1 = .ok (.invokevirtual 106, 3) := by decide +kernel
theorem dX9_shot_4 : decode cX9_shot 4 = .ok (.ifCond .lt 6, 3) := by decide +kernel
theorem dX9_shot_7 : decode cX9_shot 7 = .ok (.bipush (-5), 2) := by decide +kernel
theorem dX9_shot_9 : decode cX9_shot 9 = .ok (.ireturn, 1) := by decide +kernel
theorem dX9_shot_10 : decode cX9_shot 10 = .ok (.aload_n 0, 1) := by decide +kernel
theorem dX9_shot_11 : decode cX9_shot 11 = .ok (.getfield 73, 3) := by decide +kernel
theorem dX9_shot_14 : decode cX9_shot 14 = .ok (.bipush 10, 2) := by decide +kernel
theorem dX9_shot_16 : decode cX9_shot 16 = .ok (.if_icmp .ne 6, 3) := by decide +kernel
theorem dX9_shot_19 : decode cX9_shot 19 = .ok (.bipush (-4), 2) := by decide +kernel
theorem dX9_shot_21 : decode cX9_shot 21 = .ok (.ireturn, 1) := by decide +kernel
theorem dX9_shot_22 : decode cX9_shot 22 = .ok (.iconst 0, 1) := by decide +kernel
theorem dX9_shot_23 : decode cX9_shot 23 = .ok (.istore_n 1, 1) := by decide +kernel
theorem dX9_shot_24 : decode cX9_shot 24 = .ok (.iload_n 1, 1) := by decide +kernel
theorem dX9_shot_25 : decode cX9_shot 25 = .ok (.aload_n 0, 1) := by decide +kernel
theorem dX9_shot_26 : decode cX9_shot 26 = .ok (.getfield 70, 3) := by decide +kernel
theorem dX9_shot_29 : decode cX9_shot 29 = .ok (.if_icmp .ge 29, 3) := by decide +kernel
theorem dX9_shot_32 : decode cX9_shot 32 = .ok (.aload_n 0, 1) := by decide +kernel
theorem dX9_shot_33 : decode cX9_shot 33 = .ok (.getfield 7, 3) := by decide +kernel
theorem dX9_shot_36 : decode cX9_shot 36 = .ok (.bipush 8, 2) := by decide +kernel
theorem dX9_shot_38 : decode cX9_shot 38 = .ok (.aload_n 0, 1) := by decide +kernel
theorem dX9_shot_39 : decode cX9_shot 39 = .ok (.getfield 73, 3) := by decide +kernel
theorem dX9_shot_42 : decode cX9_shot 42 = .ok (.imul, 1) := by decide +kernel
theorem dX9_shot_43 : decode cX9_shot 43 = .ok (.iload_n 1, 1) := by decide +kernel
theorem dX9_shot_44 : decode cX9_shot 44 = .ok (.iadd, 1) := by decide +kernel
theorem dX9_shot_45 : decode cX9_shot 45 = .ok (.aload_n 0, 1) := by decide +kernel
theorem dX9_shot_46 : decode cX9_shot 46 = .ok (.getfield 31, 3) := by decide +kernel
theorem dX9_shot_49 : decode cX9_shot 49 = .ok (.iload_n 1, 1) := by decide +kernel
theorem dX9_shot_50 : decode cX9_shot 50 = .ok (.iaload, 1) := by decide +kernel
theorem dX9_shot_51 : decode cX9_shot 51 = .ok (.iastore, 1) := by decide +kernel
theorem dX9_shot_52 : decode cX9_shot 52 = .ok (.iinc 1 1, 3) := by decide +kernel
theorem dX9_shot_55 : decode cX9_shot 55 = .ok (.goto (-31), 3) := by decide +kernel
theorem dX9_shot_58 : decode cX9_shot 58 = .ok (.aload_n 0, 1) := by decide +kernel
theorem dX9_shot_59 : decode cX9_shot 59 = .ok (.iconst 0, 1) := by decide +kernel
theorem dX9_shot_60 : decode cX9_shot 60 = .ok (.putfield 96, 3) := by decide +kernel
theorem dX9_shot_63 : decode cX9_shot 63 = .ok (.aload_n 0, 1) := by decide +kernel
theorem dX9_shot_64 : decode cX9_shot 64 = .ok (.dup, 1) := by decide +kernel
theorem dX9_shot_65 : decode cX9_shot 65 = .ok (.getfield 73, 3) := by decide +kernel
theorem dX9_shot_68 : decode cX9_shot 68 = .ok (.iconst 1, 1) := by decide +kernel
theorem dX9_shot_69 : decode cX9_shot 69 = .ok (.iadd, 1) := by decide +kernel
theorem dX9_shot_70 : decode cX9_shot 70 = .ok (.putfield 73, 3) := by decide +kernel
theorem dX9_shot_73 : decode cX9_shot 73 = .ok (.aload_n 0, 1) := by decide +kernel
theorem dX9_shot_74 : decode cX9_shot 74 = .ok (.getfield 73, 3) := by decide +kernel
theorem dX9_shot_77 : decode cX9_shot 77 = .ok (.iconst 1, 1) := by decide +kernel
theorem dX9_shot_78 : decode cX9_shot 78 = .ok (.isub, 1) := by decide +kernel
theorem dX9_shot_79 : decode cX9_shot 79 = .ok (.ireturn, 1) := by decide +kernel
theorem dX9_look_0 : decode cX9_look 0 = .ok (.iload_n 1, 1) := by decide +kernel
theorem dX9_look_1 : decode cX9_look 1 = .ok (.i2l, 1) := by decide +kernel
theorem dX9_look_2 : decode cX9_look 2 = .ok (.lconst 0, 1) := by decide +kernel
theorem dX9_look_3 : decode cX9_look 3 = .ok (.aload_n 0, 1) := by decide +kernel
theorem dX9_look_4 : decode cX9_look 4 = .ok (.getfield 73, 3) := by decide +kernel
theorem dX9_look_7 : decode cX9_look 7 = .ok (.iconst 1, 1) := by decide +kernel
theorem dX9_look_8 : decode cX9_look 8 = .ok (.isub, 1) := by decide +kernel
theorem dX9_look_9 : decode cX9_look 9 = .ok (.i2l, 1) := by decide +kernel
theorem dX9_look_10 : decode cX9_look 10 = .ok (.invokestatic 82, 3) := by decide +kernel
theorem dX9_look_13 : decode cX9_look 13 = .ok (.ifCond .eq 25, 3) := by decide +kernel
theorem dX9_look_16 : decode cX9_look 16 = .ok (.aload_n 0, 1) := by decide +kernel
theorem dX9_look_17 : decode cX9_look 17 = .ok (.iload_n 2, 1) := by decide +kernel
theorem dX9_look_18 : decode cX9_look 18 = .ok (.invokevirtual 88, 3) := by decide +kernel
theorem dX9_look_21 : decode cX9_look 21 = .ok (.ifCond .eq 17, 3) := by decide +kernel
theorem dX9_look_24 : decode cX9_look 24 = .ok (.aload_n 0, 1) := by decide +kernel
theorem dX9_look_25 : decode cX9_look 25 = .ok (.getfield 7, 3) := by decide +kernel
theorem dX9_look_28 : decode cX9_look 28 = .ok (.bipush 8, 2) := by decide +kernel
theorem dX9_look_30 : decode cX9_look 30 = .ok (.iload_n 1, 1) := by decide +kernel
theorem dX9_look_31 : decode cX9_look 31 = .ok (.imul, 1) := by decide +kernel
theorem dX9_look_32 : decode cX9_look 32 = .ok (.iload_n 2, 1) := by decide +kernel
theorem dX9_look_33 : decode cX9_look 33 = .ok (.iadd, 1) := by decide +kernel
theorem dX9_look_34 : decode cX9_look 34 = .ok (.iaload, 1) := by decide +kernel
theorem dX9_look_35 : decode cX9_look 35 = .ok (.goto 4, 3) := by decide +kernel
theorem dX9_look_38 : decode cX9_look 38 = .ok (.iconst (-1), 1) := by decide +kernel
theorem dX9_look_39 : decode cX9_look 39 = .ok (.ireturn, 1) := by decide +kernel
theorem dX9_isOpen_0 : decode cX9_isOpen 0 = .ok (.aload_n 0, 1) := by decide +kernel
theorem dX9_isOpen_1 : decode cX9_isOpen 1 = .ok (.getfield 7, 3) := by decide +kernel
theorem dX9_isOpen_4 : decode cX9_isOpen 4 = .ok (.bipush 8, 2) := by decide +kernel
theorem dX9_isOpen_6 : decode cX9_isOpen 6 = .ok (.iload_n 1, 1) := by decide +kernel
theorem dX9_isOpen_7 : decode cX9_isOpen 7 = .ok (.imul, 1) := by decide +kernel
theorem dX9_isOpen_8 : decode cX9_isOpen 8 = .ok (.iload_n 2, 1) := by decide +kernel
theorem dX9_isOpen_9 : decode cX9_isOpen 9 = .ok (.iadd, 1) := by decide +kernel
theorem dX9_isOpen_10 : decode cX9_isOpen 10 = .ok (.iaload, 1) := by decide +kernel
theorem dX9_isOpen_11 : decode cX9_isOpen 11 = .ok (.bipush 111, 2) := by decide +kernel
theorem dX9_isOpen_13 : decode cX9_isOpen 13 = .ok (.if_icmp .ne 7, 3) := by decide +kernel
theorem dX9_isOpen_16 : decode cX9_isOpen 16 = .ok (.iconst 1, 1) := by decide +kernel
theorem dX9_isOpen_17 : decode cX9_isOpen 17 = .ok (.goto 4, 3) := by decide +kernel
theorem dX9_isOpen_20 : decode cX9_isOpen 20 = .ok (.iconst 0, 1) := by decide +kernel
theorem dX9_isOpen_21 : decode cX9_isOpen 21 = .ok (.ireturn, 1) := by decide +kernel
theorem dX9_badIn_0 : decode cX9_badIn 0 = .ok (.iconst 0, 1) := by decide +kernel
theorem dX9_badIn_1 : decode cX9_badIn 1 = .ok (.istore_n 2, 1) := by decide +kernel
theorem dX9_badIn_2 : decode cX9_badIn 2 = .ok (.iconst 0, 1) := by decide +kernel
theorem dX9_badIn_3 : decode cX9_badIn 3 = .ok (.istore_n 3, 1) := by decide +kernel
theorem dX9_badIn_4 : decode cX9_badIn 4 = .ok (.iload_n 3, 1) := by decide +kernel
theorem dX9_badIn_5 : decode cX9_badIn 5 = .ok (.aload_n 0, 1) := by decide +kernel
theorem dX9_badIn_6 : decode cX9_badIn 6 = .ok (.getfield 70, 3) := by decide +kernel
theorem dX9_badIn_9 : decode cX9_badIn 9 = .ok (.if_icmp .ge 26, 3) := by decide +kernel
theorem dX9_badIn_12 : decode cX9_badIn 12 = .ok (.iload_n 2, 1) := by decide +kernel
theorem dX9_badIn_13 : decode cX9_badIn 13 = .ok (.aload_n 0, 1) := by decide +kernel
theorem dX9_badIn_14 : decode cX9_badIn 14 = .ok (.iload_n 1, 1) := by decide +kernel
theorem dX9_badIn_15 : decode cX9_badIn 15 = .ok (.iload_n 3, 1) := by decide +kernel
theorem dX9_badIn_16 : decode cX9_badIn 16 = .ok (.invokevirtual 112, 3) := by decide +kernel
theorem dX9_badIn_19 : decode cX9_badIn 19 = .ok (.ifCond .eq 7, 3) := by decide +kernel
theorem dX9_badIn_22 : decode cX9_badIn 22 = .ok (.iconst 0, 1) := by decide +kernel
theorem dX9_badIn_23 : decode cX9_badIn 23 = .ok (.goto 4, 3) := by decide +kernel
theorem dX9_badIn_26 : decode cX9_badIn 26 = .ok (.iconst 1, 1) := by decide +kernel
theorem dX9_badIn_27 : decode cX9_badIn 27 = .ok (.iadd, 1) := by decide +kernel
theorem dX9_badIn_28 : decode cX9_badIn 28 = .ok (.istore_n 2, 1) := by decide +kernel
theorem dX9_badIn_29 : decode cX9_badIn 29 = .ok (.iinc 3 1, 3) := by decide +kernel
theorem dX9_badIn_32 : decode cX9_badIn 32 = .ok (.goto (-28), 3) := by decide +kernel
theorem dX9_badIn_35 : decode cX9_badIn 35 = .ok (.iload_n 2, 1) := by decide +kernel
theorem dX9_badIn_36 : decode cX9_badIn 36 = .ok (.ireturn, 1) := by decide +kernel
theorem dX9_hiddenIn_0 : decode cX9_hiddenIn 0 = .ok (.iconst 0, 1) := by decide +kernel
theorem dX9_hiddenIn_1 : decode cX9_hiddenIn 1 = .ok (.istore_n 2, 1) := by decide +kernel
theorem dX9_hiddenIn_2 : decode cX9_hiddenIn 2 = .ok (.iconst 0, 1) := by decide +kernel
theorem dX9_hiddenIn_3 : decode cX9_hiddenIn 3 = .ok (.istore_n 3, 1) := by decide +kernel
theorem dX9_hiddenIn_4 : decode cX9_hiddenIn 4 = .ok (.iload_n 3, 1) := by decide +kernel
theorem dX9_hiddenIn_5 : decode cX9_hiddenIn 5 = .ok (.aload_n 0, 1) := by decide +kernel
theorem dX9_hiddenIn_6 : decode cX9_hiddenIn 6 = .ok (.getfield 70, 3) := by decide +kernel
theorem dX9_hiddenIn_9 : decode cX9_hiddenIn 9 = .ok (.if_icmp .ge 33, 3) := by decide +kernel
theorem dX9_hiddenIn_12 : decode cX9_hiddenIn 12 = .ok (.iload_n 2, 1) := by decide +kernel
theorem dX9_hiddenIn_13 : decode cX9_hiddenIn 13 = .ok (.aload_n 0, 1) := by decide +kernel
theorem dX9_hiddenIn_14 : decode cX9_hiddenIn 14 = .ok (.getfield 7, 3) := by decide +kernel
theorem dX9_hiddenIn_17 : decode cX9_hiddenIn 17 = .ok (.bipush 8, 2) := by decide +kernel
theorem dX9_hiddenIn_19 : decode cX9_hiddenIn 19 = .ok (.iload_n 1, 1) := by decide +kernel
theorem dX9_hiddenIn_20 : decode cX9_hiddenIn 20 = .ok (.imul, 1) := by decide +kernel
theorem dX9_hiddenIn_21 : decode cX9_hiddenIn 21 = .ok (.iload_n 3, 1) := by decide +kernel
theorem dX9_hiddenIn_22 : decode cX9_hiddenIn 22 = .ok (.iadd, 1) := by decide +kernel
theorem dX9_hiddenIn_23 : decode cX9_hiddenIn 23 = .ok (.iaload, 1) := by decide +kernel
theorem dX9_hiddenIn_24 : decode cX9_hiddenIn 24 = .ok (.bipush 104, 2) := by decide +kernel
theorem dX9_hiddenIn_26 : decode cX9_hiddenIn 26 = .ok (.if_icmp .ne 7, 3) := by decide +kernel
theorem dX9_hiddenIn_29 : decode cX9_hiddenIn 29 = .ok (.iconst 1, 1) := by decide +kernel
theorem dX9_hiddenIn_30 : decode cX9_hiddenIn 30 = .ok (.goto 4, 3) := by decide +kernel
theorem dX9_hiddenIn_33 : decode cX9_hiddenIn 33 = .ok (.iconst 0, 1) := by decide +kernel
theorem dX9_hiddenIn_34 : decode cX9_hiddenIn 34 = .ok (.iadd, 1) := by decide +kernel
theorem dX9_hiddenIn_35 : decode cX9_hiddenIn 35 = .ok (.istore_n 2, 1) := by decide +kernel
theorem dX9_hiddenIn_36 : decode cX9_hiddenIn 36 = .ok (.iinc 3 1, 3) := by decide +kernel
theorem dX9_hiddenIn_39 : decode cX9_hiddenIn 39 = .ok (.goto (-35), 3) := by decide +kernel
theorem dX9_hiddenIn_42 : decode cX9_hiddenIn 42 = .ok (.iload_n 2, 1) := by decide +kernel
theorem dX9_hiddenIn_43 : decode cX9_hiddenIn 43 = .ok (.ireturn, 1) := by decide +kernel
theorem dX9_single_0 : decode cX9_single 0 = .ok (.iload_n 1, 1) := by decide +kernel
theorem dX9_single_1 : decode cX9_single 1 = .ok (.i2l, 1) := by decide +kernel
theorem dX9_single_2 : decode cX9_single 2 = .ok (.lconst 0, 1) := by decide +kernel
theorem dX9_single_3 : decode cX9_single 3 = .ok (.lconst 1, 1) := by decide +kernel
theorem dX9_single_4 : decode cX9_single 4 = .ok (.invokestatic 82, 3) := by decide +kernel
theorem dX9_single_7 : decode cX9_single 7 = .ok (.ifCond .ne 6, 3) := by decide +kernel
theorem dX9_single_10 : decode cX9_single 10 = .ok (.bipush (-2), 2) := by decide +kernel
theorem dX9_single_12 : decode cX9_single 12 = .ok (.ireturn, 1) := by decide +kernel
theorem dX9_single_13 : decode cX9_single 13 = .ok (.bipush (-6), 2) := by decide +kernel
theorem dX9_single_15 : decode cX9_single 15 = .ok (.istore_n 2, 1) := by decide +kernel
theorem dX9_single_16 : decode cX9_single 16 = .ok (.iconst 0, 1) := by decide +kernel
theorem dX9_single_17 : decode cX9_single 17 = .ok (.istore_n 3, 1) := by decide +kernel
theorem dX9_single_18 : decode cX9_single 18 = .ok (.iconst 0, 1) := by decide +kernel
theorem dX9_single_19 : decode cX9_single 19 = .ok (.istore 4, 2) := by decide +kernel
theorem dX9_single_21 : decode cX9_single 21 = .ok (.iload 4, 2) := by decide +kernel
theorem dX9_single_23 : decode cX9_single 23 = .ok (.aload_n 0, 1) := by decide +kernel
theorem dX9_single_24 : decode cX9_single 24 = .ok (.getfield 73, 3) := by decide +kernel
theorem dX9_single_27 : decode cX9_single 27 = .ok (.if_icmp .ge 63, 3) := by decide +kernel
theorem dX9_single_30 : decode cX9_single 30 = .ok (.bipush 10, 2) := by decide +kernel
theorem dX9_single_32 : decode cX9_single 32 = .ok (.aload_n 0, 1) := by decide +kernel
theorem dX9_single_33 : decode cX9_single 33 = .ok (.iload 4, 2) := by decide +kernel
theorem dX9_single_35 : decode cX9_single 35 = .ok (.invokevirtual 116, 3) := by decide +kernel
theorem dX9_single_38 : decode cX9_single 38 = .ok (.imul, 1) := by decide +kernel
theorem dX9_single_39 : decode cX9_single 39 = .ok (.aload_n 0, 1) := by decide +kernel
theorem dX9_single_40 : decode cX9_single 40 = .ok (.iload 4, 2) := by decide +kernel
theorem dX9_single_42 : decode cX9_single 42 = .ok (.invokevirtual 120, 3) := by decide +kernel
theorem dX9_single_45 : decode cX9_single 45 = .ok (.iadd, 1) := by decide +kernel
theorem dX9_single_46 : decode cX9_single 46 = .ok (.istore 5, 2) := by decide +kernel
theorem dX9_single_48 : decode cX9_single 48 = .ok (.aload_n 0, 1) := by decide +kernel
theorem dX9_single_49 : decode cX9_single 49 = .ok (.getfield 76, 3) := by decide +kernel
theorem dX9_single_52 : decode cX9_single 52 = .ok (.ifCond .lt 16, 3) := by decide +kernel
theorem dX9_single_55 : decode cX9_single 55 = .ok (.aload_n 0, 1) := by decide +kernel
theorem dX9_single_56 : decode cX9_single 56 = .ok (.iload 4, 2) := by decide +kernel
theorem dX9_single_58 : decode cX9_single 58 = .ok (.aload_n 0, 1) := by decide +kernel
theorem dX9_single_59 : decode cX9_single 59 = .ok (.getfield 76, 3) := by decide +kernel
theorem dX9_single_62 : decode cX9_single 62 = .ok (.invokevirtual 112, 3) := by decide +kernel
theorem dX9_single_65 : decode cX9_single 65 = .ok (.ifCond .eq 19, 3) := by decide +kernel
theorem dX9_single_68 : decode cX9_single 68 = .ok (.iload_n 2, 1) := by decide +kernel
theorem dX9_single_69 : decode cX9_single 69 = .ok (.ifCond .lt 9, 3) := by decide +kernel
theorem dX9_single_72 : decode cX9_single 72 = .ok (.iload 5, 2) := by decide +kernel
theorem dX9_single_74 : decode cX9_single 74 = .ok (.iload_n 3, 1) := by decide +kernel
theorem dX9_single_75 : decode cX9_single 75 = .ok (.if_icmp .ge 9, 3) := by decide +kernel
theorem dX9_single_78 : decode cX9_single 78 = .ok (.iload 4, 2) := by decide +kernel
theorem dX9_single_80 : decode cX9_single 80 = .ok (.istore_n 2, 1) := by decide +kernel
theorem dX9_single_81 : decode cX9_single 81 = .ok (.iload 5, 2) := by decide +kernel
theorem dX9_single_83 : decode cX9_single 83 = .ok (.istore_n 3, 1) := by decide +kernel
theorem dX9_single_84 : decode cX9_single 84 = .ok (.iinc 4 1, 3) := by decide +kernel
theorem dX9_single_87 : decode cX9_single 87 = .ok (.goto (-66), 3) := by decide +kernel
theorem dX9_single_90 : decode cX9_single 90 = .ok (.iload_n 2, 1) := by decide +kernel
theorem dX9_single_91 : decode cX9_single 91 = .ok (.ifCond .ge 8, 3) := by decide +kernel
theorem dX9_single_94 : decode cX9_single 94 = .ok (.bipush (-6), 2) := by decide +kernel
theorem dX9_single_96 : decode cX9_single 96 = .ok (.goto 15, 3) := by decide +kernel
theorem dX9_single_99 : decode cX9_single 99 = .ok (.iload_n 1, 1) := by decide +kernel
theorem dX9_single_100 : decode cX9_single 100 = .ok (.ifCond .ne 7, 3) := by decide +kernel
theorem dX9_single_103 : decode cX9_single 103 = .ok (.iload_n 2, 1) := by decide +kernel
theorem dX9_single_104 : decode cX9_single 104 = .ok (.goto 7, 3) := by decide +kernel
theorem dX9_single_107 : decode cX9_single 107 = .ok (.iload_n 3, 1) := by decide +kernel
theorem dX9_single_108 : decode cX9_single 108 = .ok (.bipush 10, 2) := by decide +kernel
theorem dX9_single_110 : decode cX9_single 110 = .ok (.idiv, 1) := by decide +kernel
theorem dX9_single_111 : decode cX9_single 111 = .ok (.ireturn, 1) := by decide +kernel
theorem dX9_openIn_0 : decode cX9_openIn 0 = .ok (.iconst 0, 1) := by decide +kernel
theorem dX9_openIn_1 : decode cX9_openIn 1 = .ok (.istore_n 2, 1) := by decide +kernel
theorem dX9_openIn_2 : decode cX9_openIn 2 = .ok (.iconst 0, 1) := by decide +kernel
theorem dX9_openIn_3 : decode cX9_openIn 3 = .ok (.istore_n 3, 1) := by decide +kernel
theorem dX9_openIn_4 : decode cX9_openIn 4 = .ok (.iload_n 3, 1) := by decide +kernel
theorem dX9_openIn_5 : decode cX9_openIn 5 = .ok (.aload_n 0, 1) := by decide +kernel
theorem dX9_openIn_6 : decode cX9_openIn 6 = .ok (.getfield 70, 3) := by decide +kernel
theorem dX9_openIn_9 : decode cX9_openIn 9 = .ok (.if_icmp .ge 28, 3) := by decide +kernel
theorem dX9_openIn_12 : decode cX9_openIn 12 = .ok (.iload_n 2, 1) := by decide +kernel
theorem dX9_openIn_13 : decode cX9_openIn 13 = .ok (.aload_n 0, 1) := by decide +kernel
theorem dX9_openIn_14 : decode cX9_openIn 14 = .ok (.iload_n 1, 1) := by decide +kernel
theorem dX9_openIn_15 : decode cX9_openIn 15 = .ok (.iload_n 3, 1) := by decide +kernel
theorem dX9_openIn_16 : decode cX9_openIn 16 = .ok (.invokevirtual 112, 3) := by decide +kernel
theorem dX9_openIn_19 : decode cX9_openIn 19 = .ok (.ifCond .eq 9, 3) := by decide +kernel
theorem dX9_openIn_22 : decode cX9_openIn 22 = .ok (.iconst 1, 1) := by decide +kernel
theorem dX9_openIn_23 : decode cX9_openIn 23 = .ok (.iload_n 3, 1) := by decide +kernel
theorem dX9_openIn_24 : decode cX9_openIn 24 = .ok (.ishl, 1) := by decide +kernel
theorem dX9_openIn_25 : decode cX9_openIn 25 = .ok (.goto 4, 3) := by decide +kernel
theorem dX9_openIn_28 : decode cX9_openIn 28 = .ok (.iconst 0, 1) := by decide +kernel
theorem dX9_openIn_29 : decode cX9_openIn 29 = .ok (.ior, 1) := by decide +kernel
theorem dX9_openIn_30 : decode cX9_openIn 30 = .ok (.istore_n 2, 1) := by decide +kernel
theorem dX9_openIn_31 : decode cX9_openIn 31 = .ok (.iinc 3 1, 3) := by decide +kernel
theorem dX9_openIn_34 : decode cX9_openIn 34 = .ok (.goto (-30), 3) := by decide +kernel
theorem dX9_openIn_37 : decode cX9_openIn 37 = .ok (.iload_n 2, 1) := by decide +kernel
theorem dX9_openIn_38 : decode cX9_openIn 38 = .ok (.ireturn, 1) := by decide +kernel
theorem dX9_cover_0 : decode cX9_cover 0 = .ok (.bipush (-6), 2) := by decide +kernel
theorem dX9_cover_2 : decode cX9_cover 2 = .ok (.istore_n 1, 1) := by decide +kernel
theorem dX9_cover_3 : decode cX9_cover 3 = .ok (.iconst 0, 1) := by decide +kernel
theorem dX9_cover_4 : decode cX9_cover 4 = .ok (.istore_n 2, 1) := by decide +kernel
theorem dX9_cover_5 : decode cX9_cover 5 = .ok (.iload_n 2, 1) := by decide +kernel
theorem dX9_cover_6 : decode cX9_cover 6 = .ok (.iconst 1, 1) := by decide +kernel
theorem dX9_cover_7 : decode cX9_cover 7 = .ok (.aload_n 0, 1) := by decide +kernel
theorem dX9_cover_8 : decode cX9_cover 8 = .ok (.getfield 73, 3) := by decide +kernel
theorem dX9_cover_11 : decode cX9_cover 11 = .ok (.ishl, 1) := by decide +kernel
theorem dX9_cover_12 : decode cX9_cover 12 = .ok (.if_icmp .ge 97, 3) := by decide +kernel
theorem dX9_cover_15 : decode cX9_cover 15 = .ok (.iconst 0, 1) := by decide +kernel
theorem dX9_cover_16 : decode cX9_cover 16 = .ok (.istore_n 3, 1) := by decide +kernel
theorem dX9_cover_17 : decode cX9_cover 17 = .ok (.iconst 0, 1) := by decide +kernel
theorem dX9_cover_18 : decode cX9_cover 18 = .ok (.istore 4, 2) := by decide +kernel
theorem dX9_cover_20 : decode cX9_cover 20 = .ok (.iload 4, 2) := by decide +kernel
theorem dX9_cover_22 : decode cX9_cover 22 = .ok (.aload_n 0, 1) := by decide +kernel
theorem dX9_cover_23 : decode cX9_cover 23 = .ok (.getfield 73, 3) := by decide +kernel
theorem dX9_cover_26 : decode cX9_cover 26 = .ok (.if_icmp .ge 32, 3) := by decide +kernel
theorem dX9_cover_29 : decode cX9_cover 29 = .ok (.iload_n 3, 1) := by decide +kernel
theorem dX9_cover_30 : decode cX9_cover 30 = .ok (.iload_n 2, 1) := by decide +kernel
theorem dX9_cover_31 : decode cX9_cover 31 = .ok (.iload 4, 2) := by decide +kernel
theorem dX9_cover_33 : decode cX9_cover 33 = .ok (.ishr, 1) := by decide +kernel
theorem dX9_cover_34 : decode cX9_cover 34 = .ok (.iconst 1, 1) := by decide +kernel
theorem dX9_cover_35 : decode cX9_cover 35 = .ok (.iand, 1) := by decide +kernel
theorem dX9_cover_36 : decode cX9_cover 36 = .ok (.iconst 1, 1) := by decide +kernel
theorem dX9_cover_37 : decode cX9_cover 37 = .ok (.if_icmp .ne 12, 3) := by decide +kernel
theorem dX9_cover_40 : decode cX9_cover 40 = .ok (.aload_n 0, 1) := by decide +kernel
theorem dX9_cover_41 : decode cX9_cover 41 = .ok (.iload 4, 2) := by decide +kernel
theorem dX9_cover_43 : decode cX9_cover 43 = .ok (.invokevirtual 123, 3) := by decide +kernel
theorem dX9_cover_46 : decode cX9_cover 46 = .ok (.goto 4, 3) := by decide +kernel
theorem dX9_cover_49 : decode cX9_cover 49 = .ok (.iconst 0, 1) := by decide +kernel
theorem dX9_cover_50 : decode cX9_cover 50 = .ok (.ior, 1) := by decide +kernel
theorem dX9_cover_51 : decode cX9_cover 51 = .ok (.istore_n 3, 1) := by decide +kernel
theorem dX9_cover_52 : decode cX9_cover 52 = .ok (.iinc 4 1, 3) := by decide +kernel
theorem dX9_cover_55 : decode cX9_cover 55 = .ok (.goto (-35), 3) := by decide +kernel
theorem dX9_cover_58 : decode cX9_cover 58 = .ok (.iload_n 3, 1) := by decide +kernel
theorem dX9_cover_59 : decode cX9_cover 59 = .ok (.iconst 1, 1) := by decide +kernel
theorem dX9_cover_60 : decode cX9_cover 60 = .ok (.aload_n 0, 1) := by decide +kernel
theorem dX9_cover_61 : decode cX9_cover 61 = .ok (.getfield 70, 3) := by decide +kernel
theorem dX9_cover_64 : decode cX9_cover 64 = .ok (.ishl, 1) := by decide +kernel
theorem dX9_cover_65 : decode cX9_cover 65 = .ok (.iconst 1, 1) := by decide +kernel
theorem dX9_cover_66 : decode cX9_cover 66 = .ok (.isub, 1) := by decide +kernel
theorem dX9_cover_67 : decode cX9_cover 67 = .ok (.if_icmp .ne 7, 3) := by decide +kernel
theorem dX9_cover_70 : decode cX9_cover 70 = .ok (.iconst 1, 1) := by decide +kernel
theorem dX9_cover_71 : decode cX9_cover 71 = .ok (.goto 4, 3) := by decide +kernel
theorem dX9_cover_74 : decode cX9_cover 74 = .ok (.iconst 0, 1) := by decide +kernel
theorem dX9_cover_75 : decode cX9_cover 75 = .ok (.istore 4, 2) := by decide +kernel
theorem dX9_cover_77 : decode cX9_cover 77 = .ok (.iload 4, 2) := by decide +kernel
theorem dX9_cover_79 : decode cX9_cover 79 = .ok (.ifCond .eq 22, 3) := by decide +kernel
theorem dX9_cover_82 : decode cX9_cover 82 = .ok (.iload_n 1, 1) := by decide +kernel
theorem dX9_cover_83 : decode cX9_cover 83 = .ok (.ifCond .lt 14, 3) := by decide +kernel
theorem dX9_cover_86 : decode cX9_cover 86 = .ok (.iload_n 2, 1) := by decide +kernel
theorem dX9_cover_87 : decode cX9_cover 87 = .ok (.invokestatic 126, 3) := by decide +kernel
theorem dX9_cover_90 : decode cX9_cover 90 = .ok (.iload_n 1, 1) := by decide +kernel
theorem dX9_cover_91 : decode cX9_cover 91 = .ok (.invokestatic 126, 3) := by decide +kernel
theorem dX9_cover_94 : decode cX9_cover 94 = .ok (.if_icmp .ge 7, 3) := by decide +kernel
theorem dX9_cover_97 : decode cX9_cover 97 = .ok (.iload_n 2, 1) := by decide +kernel
theorem dX9_cover_98 : decode cX9_cover 98 = .ok (.goto 4, 3) := by decide +kernel
theorem dX9_cover_101 : decode cX9_cover 101 = .ok (.iload_n 1, 1) := by decide +kernel
theorem dX9_cover_102 : decode cX9_cover 102 = .ok (.istore_n 1, 1) := by decide +kernel
theorem dX9_cover_103 : decode cX9_cover 103 = .ok (.iinc 2 1, 3) := by decide +kernel
theorem dX9_cover_106 : decode cX9_cover 106 = .ok (.goto (-101), 3) := by decide +kernel
theorem dX9_cover_109 : decode cX9_cover 109 = .ok (.iload_n 1, 1) := by decide +kernel
theorem dX9_cover_110 : decode cX9_cover 110 = .ok (.ireturn, 1) := by decide +kernel
theorem dX9_spoils_0 : decode cX9_spoils 0 = .ok (.iload_n 1, 1) := by decide +kernel
theorem dX9_spoils_1 : decode cX9_spoils 1 = .ok (.i2l, 1) := by decide +kernel
theorem dX9_spoils_2 : decode cX9_spoils 2 = .ok (.lconst 0, 1) := by decide +kernel
theorem dX9_spoils_3 : decode cX9_spoils 3 = .ok (.lconst 1, 1) := by decide +kernel
theorem dX9_spoils_4 : decode cX9_spoils 4 = .ok (.invokestatic 82, 3) := by decide +kernel
theorem dX9_spoils_7 : decode cX9_spoils 7 = .ok (.ifCond .ne 6, 3) := by decide +kernel
theorem dX9_spoils_10 : decode cX9_spoils 10 = .ok (.bipush (-2), 2) := by decide +kernel
theorem dX9_spoils_12 : decode cX9_spoils 12 = .ok (.ireturn, 1) := by decide +kernel
theorem dX9_spoils_13 : decode cX9_spoils 13 = .ok (.bipush (-6), 2) := by decide +kernel
theorem dX9_spoils_15 : decode cX9_spoils 15 = .ok (.istore_n 2, 1) := by decide +kernel
theorem dX9_spoils_16 : decode cX9_spoils 16 = .ok (.iconst 0, 1) := by decide +kernel
theorem dX9_spoils_17 : decode cX9_spoils 17 = .ok (.istore_n 3, 1) := by decide +kernel
theorem dX9_spoils_18 : decode cX9_spoils 18 = .ok (.iconst 0, 1) := by decide +kernel
theorem dX9_spoils_19 : decode cX9_spoils 19 = .ok (.istore 4, 2) := by decide +kernel
theorem dX9_spoils_21 : decode cX9_spoils 21 = .ok (.iload 4, 2) := by decide +kernel
theorem dX9_spoils_23 : decode cX9_spoils 23 = .ok (.aload_n 0, 1) := by decide +kernel
theorem dX9_spoils_24 : decode cX9_spoils 24 = .ok (.getfield 70, 3) := by decide +kernel
theorem dX9_spoils_27 : decode cX9_spoils 27 = .ok (.if_icmp .ge 77, 3) := by decide +kernel
theorem dX9_spoils_30 : decode cX9_spoils 30 = .ok (.iconst 0, 1) := by decide +kernel
theorem dX9_spoils_31 : decode cX9_spoils 31 = .ok (.istore 5, 2) := by decide +kernel
theorem dX9_spoils_33 : decode cX9_spoils 33 = .ok (.iconst 0, 1) := by decide +kernel
theorem dX9_spoils_34 : decode cX9_spoils 34 = .ok (.istore 6, 2) := by decide +kernel
theorem dX9_spoils_36 : decode cX9_spoils 36 = .ok (.iload 6, 2) := by decide +kernel
theorem dX9_spoils_38 : decode cX9_spoils 38 = .ok (.aload_n 0, 1) := by decide +kernel
theorem dX9_spoils_39 : decode cX9_spoils 39 = .ok (.getfield 73, 3) := by decide +kernel
theorem dX9_spoils_42 : decode cX9_spoils 42 = .ok (.if_icmp .ge 30, 3) := by decide +kernel
theorem dX9_spoils_45 : decode cX9_spoils 45 = .ok (.iload 5, 2) := by decide +kernel
theorem dX9_spoils_47 : decode cX9_spoils 47 = .ok (.aload_n 0, 1) := by decide +kernel
theorem dX9_spoils_48 : decode cX9_spoils 48 = .ok (.iload 6, 2) := by decide +kernel
theorem dX9_spoils_50 : decode cX9_spoils 50 = .ok (.iload 4, 2) := by decide +kernel
theorem dX9_spoils_52 : decode cX9_spoils 52 = .ok (.invokevirtual 112, 3) := by decide +kernel
theorem dX9_spoils_55 : decode cX9_spoils 55 = .ok (.ifCond .eq 7, 3) := by decide +kernel
theorem dX9_spoils_58 : decode cX9_spoils 58 = .ok (.iconst 0, 1) := by decide +kernel
theorem dX9_spoils_59 : decode cX9_spoils 59 = .ok (.goto 4, 3) := by decide +kernel
theorem dX9_spoils_62 : decode cX9_spoils 62 = .ok (.iconst 1, 1) := by decide +kernel
theorem dX9_spoils_63 : decode cX9_spoils 63 = .ok (.iadd, 1) := by decide +kernel
theorem dX9_spoils_64 : decode cX9_spoils 64 = .ok (.istore 5, 2) := by decide +kernel
theorem dX9_spoils_66 : decode cX9_spoils 66 = .ok (.iinc 6 1, 3) := by decide +kernel
theorem dX9_spoils_69 : decode cX9_spoils 69 = .ok (.goto (-33), 3) := by decide +kernel
theorem dX9_spoils_72 : decode cX9_spoils 72 = .ok (.iload 5, 2) := by decide +kernel
theorem dX9_spoils_74 : decode cX9_spoils 74 = .ok (.iload_n 3, 1) := by decide +kernel
theorem dX9_spoils_75 : decode cX9_spoils 75 = .ok (.if_icmp .le 8, 3) := by decide +kernel
theorem dX9_spoils_78 : decode cX9_spoils 78 = .ok (.iload 4, 2) := by decide +kernel
theorem dX9_spoils_80 : decode cX9_spoils 80 = .ok (.goto 4, 3) := by decide +kernel
theorem dX9_spoils_83 : decode cX9_spoils 83 = .ok (.iload_n 2, 1) := by decide +kernel
theorem dX9_spoils_84 : decode cX9_spoils 84 = .ok (.istore_n 2, 1) := by decide +kernel
theorem dX9_spoils_85 : decode cX9_spoils 85 = .ok (.iload 5, 2) := by decide +kernel
theorem dX9_spoils_87 : decode cX9_spoils 87 = .ok (.iload_n 3, 1) := by decide +kernel
theorem dX9_spoils_88 : decode cX9_spoils 88 = .ok (.if_icmp .le 8, 3) := by decide +kernel
theorem dX9_spoils_91 : decode cX9_spoils 91 = .ok (.iload 5, 2) := by decide +kernel
theorem dX9_spoils_93 : decode cX9_spoils 93 = .ok (.goto 4, 3) := by decide +kernel
theorem dX9_spoils_96 : decode cX9_spoils 96 = .ok (.iload_n 3, 1) := by decide +kernel
theorem dX9_spoils_97 : decode cX9_spoils 97 = .ok (.istore_n 3, 1) := by decide +kernel
theorem dX9_spoils_98 : decode cX9_spoils 98 = .ok (.iinc 4 1, 3) := by decide +kernel
theorem dX9_spoils_101 : decode cX9_spoils 101 = .ok (.goto (-80), 3) := by decide +kernel
theorem dX9_spoils_104 : decode cX9_spoils 104 = .ok (.iload_n 1, 1) := by decide +kernel
theorem dX9_spoils_105 : decode cX9_spoils 105 = .ok (.ifCond .ne 7, 3) := by decide +kernel
theorem dX9_spoils_108 : decode cX9_spoils 108 = .ok (.iload_n 2, 1) := by decide +kernel
theorem dX9_spoils_109 : decode cX9_spoils 109 = .ok (.goto 4, 3) := by decide +kernel
theorem dX9_spoils_112 : decode cX9_spoils 112 = .ok (.iload_n 3, 1) := by decide +kernel
theorem dX9_spoils_113 : decode cX9_spoils 113 = .ok (.ireturn, 1) := by decide +kernel
theorem dX9_hands_0 : decode cX9_hands 0 = .ok (.iload_n 1, 1) := by decide +kernel
theorem dX9_hands_1 : decode cX9_hands 1 = .ok (.i2l, 1) := by decide +kernel
theorem dX9_hands_2 : decode cX9_hands 2 = .ok (.lconst 0, 1) := by decide +kernel
theorem dX9_hands_3 : decode cX9_hands 3 = .ok (.iconst 1, 1) := by decide +kernel
theorem dX9_hands_4 : decode cX9_hands 4 = .ok (.aload_n 0, 1) := by decide +kernel
theorem dX9_hands_5 : decode cX9_hands 5 = .ok (.getfield 70, 3) := by decide +kernel
theorem dX9_hands_8 : decode cX9_hands 8 = .ok (.iconst 1, 1) := by decide +kernel
theorem dX9_hands_9 : decode cX9_hands 9 = .ok (.isub, 1) := by decide +kernel
theorem dX9_hands_10 : decode cX9_hands 10 = .ok (.ishl, 1) := by decide +kernel
theorem dX9_hands_11 : decode cX9_hands 11 = .ok (.iconst 1, 1) := by decide +kernel
theorem dX9_hands_12 : decode cX9_hands 12 = .ok (.isub, 1) := by decide +kernel
theorem dX9_hands_13 : decode cX9_hands 13 = .ok (.i2l, 1) := by decide +kernel
theorem dX9_hands_14 : decode cX9_hands 14 = .ok (.invokestatic 82, 3) := by decide +kernel
theorem dX9_hands_17 : decode cX9_hands 17 = .ok (.ifCond .ne 6, 3) := by decide +kernel
theorem dX9_hands_20 : decode cX9_hands 20 = .ok (.bipush (-2), 2) := by decide +kernel
theorem dX9_hands_22 : decode cX9_hands 22 = .ok (.ireturn, 1) := by decide +kernel
theorem dX9_hands_23 : decode cX9_hands 23 = .ok (.aload_n 0, 1) := by decide +kernel
theorem dX9_hands_24 : decode cX9_hands 24 = .ok (.getfield 79, 3) := by decide +kernel
theorem dX9_hands_27 : decode cX9_hands 27 = .ok (.istore_n 2, 1) := by decide +kernel
theorem dX9_hands_28 : decode cX9_hands 28 = .ok (.aload_n 0, 1) := by decide +kernel
theorem dX9_hands_29 : decode cX9_hands 29 = .ok (.iload_n 1, 1) := by decide +kernel
theorem dX9_hands_30 : decode cX9_hands 30 = .ok (.putfield 79, 3) := by decide +kernel
theorem dX9_hands_33 : decode cX9_hands 33 = .ok (.iload_n 2, 1) := by decide +kernel
theorem dX9_hands_34 : decode cX9_hands 34 = .ok (.ireturn, 1) := by decide +kernel
theorem dX9_cutsFrom_0 : decode cX9_cutsFrom 0 = .ok (.aload_n 0, 1) := by decide +kernel
theorem dX9_cutsFrom_1 : decode cX9_cutsFrom 1 = .ok (.iload_n 2, 1) := by decide +kernel
theorem dX9_cutsFrom_2 : decode cX9_cutsFrom 2 = .ok (.iload_n 1, 1) := by decide +kernel
theorem dX9_cutsFrom_3 : decode cX9_cutsFrom 3 = .ok (.invokevirtual 112, 3) := by decide +kernel
theorem dX9_cutsFrom_6 : decode cX9_cutsFrom 6 = .ok (.ifCond .ne 7, 3) := by decide +kernel
theorem dX9_cutsFrom_9 : decode cX9_cutsFrom 9 = .ok (.sipush 1000, 3) := by decide +kernel
theorem dX9_cutsFrom_12 : decode cX9_cutsFrom 12 = .ok (.ireturn, 1) := by decide +kernel
theorem dX9_cutsFrom_13 : decode cX9_cutsFrom 13 = .ok (.iload_n 1, 1) := by decide +kernel
theorem dX9_cutsFrom_14 : decode cX9_cutsFrom 14 = .ok (.aload_n 0, 1) := by decide +kernel
theorem dX9_cutsFrom_15 : decode cX9_cutsFrom 15 = .ok (.getfield 70, 3) := by decide +kernel
theorem dX9_cutsFrom_18 : decode cX9_cutsFrom 18 = .ok (.iconst 1, 1) := by decide +kernel
theorem dX9_cutsFrom_19 : decode cX9_cutsFrom 19 = .ok (.isub, 1) := by decide +kernel
theorem dX9_cutsFrom_20 : decode cX9_cutsFrom 20 = .ok (.if_icmp .ne 5, 3) := by decide +kernel
theorem dX9_cutsFrom_23 : decode cX9_cutsFrom 23 = .ok (.iconst 0, 1) := by decide +kernel
theorem dX9_cutsFrom_24 : decode cX9_cutsFrom 24 = .ok (.ireturn, 1) := by decide +kernel
theorem dX9_cutsFrom_25 : decode cX9_cutsFrom 25 = .ok (.sipush 1000, 3) := by decide +kernel
theorem dX9_cutsFrom_28 : decode cX9_cutsFrom 28 = .ok (.istore_n 3, 1) := by decide +kernel
theorem dX9_cutsFrom_29 : decode cX9_cutsFrom 29 = .ok (.iconst 0, 1) := by decide +kernel
theorem dX9_cutsFrom_30 : decode cX9_cutsFrom 30 = .ok (.istore 4, 2) := by decide +kernel
theorem dX9_cutsFrom_32 : decode cX9_cutsFrom 32 = .ok (.iload 4, 2) := by decide +kernel
theorem dX9_cutsFrom_34 : decode cX9_cutsFrom 34 = .ok (.aload_n 0, 1) := by decide +kernel
theorem dX9_cutsFrom_35 : decode cX9_cutsFrom 35 = .ok (.getfield 73, 3) := by decide +kernel
theorem dX9_cutsFrom_38 : decode cX9_cutsFrom 38 = .ok (.if_icmp .ge 79, 3) := by decide +kernel
theorem dX9_cutsFrom_41 : decode cX9_cutsFrom 41 = .ok (.iload 4, 2) := by decide +kernel
theorem dX9_cutsFrom_43 : decode cX9_cutsFrom 43 = .ok (.iload_n 2, 1) := by decide +kernel
theorem dX9_cutsFrom_44 : decode cX9_cutsFrom 44 = .ok (.if_icmp .eq 14, 3) := by decide +kernel
theorem dX9_cutsFrom_47 : decode cX9_cutsFrom 47 = .ok (.aload_n 0, 1) := by decide +kernel
theorem dX9_cutsFrom_48 : decode cX9_cutsFrom 48 = .ok (.getfield 79, 3) := by decide +kernel
theorem dX9_cutsFrom_51 : decode cX9_cutsFrom 51 = .ok (.iload_n 1, 1) := by decide +kernel
theorem dX9_cutsFrom_52 : decode cX9_cutsFrom 52 = .ok (.ishr, 1) := by decide +kernel
theorem dX9_cutsFrom_53 : decode cX9_cutsFrom 53 = .ok (.iconst 1, 1) := by decide +kernel
theorem dX9_cutsFrom_54 : decode cX9_cutsFrom 54 = .ok (.iand, 1) := by decide +kernel
theorem dX9_cutsFrom_55 : decode cX9_cutsFrom 55 = .ok (.ifCond .ne 7, 3) := by decide +kernel
theorem dX9_cutsFrom_58 : decode cX9_cutsFrom 58 = .ok (.iconst 1, 1) := by decide +kernel
theorem dX9_cutsFrom_59 : decode cX9_cutsFrom 59 = .ok (.goto 4, 3) := by decide +kernel
theorem dX9_cutsFrom_62 : decode cX9_cutsFrom 62 = .ok (.iconst 0, 1) := by decide +kernel
theorem dX9_cutsFrom_63 : decode cX9_cutsFrom 63 = .ok (.istore 5, 2) := by decide +kernel
theorem dX9_cutsFrom_65 : decode cX9_cutsFrom 65 = .ok (.aload_n 0, 1) := by decide +kernel
theorem dX9_cutsFrom_66 : decode cX9_cutsFrom 66 = .ok (.getfield 34, 3) := by decide +kernel
theorem dX9_cutsFrom_69 : decode cX9_cutsFrom 69 = .ok (.bipush 10, 2) := by decide +kernel
theorem dX9_cutsFrom_71 : decode cX9_cutsFrom 71 = .ok (.iload_n 1, 1) := by decide +kernel
theorem dX9_cutsFrom_72 : decode cX9_cutsFrom 72 = .ok (.iconst 1, 1) := by decide +kernel
theorem dX9_cutsFrom_73 : decode cX9_cutsFrom 73 = .ok (.iadd, 1) := by decide +kernel
theorem dX9_cutsFrom_74 : decode cX9_cutsFrom 74 = .ok (.imul, 1) := by decide +kernel
theorem dX9_cutsFrom_75 : decode cX9_cutsFrom 75 = .ok (.iload 4, 2) := by decide +kernel
theorem dX9_cutsFrom_77 : decode cX9_cutsFrom 77 = .ok (.iadd, 1) := by decide +kernel
theorem dX9_cutsFrom_78 : decode cX9_cutsFrom 78 = .ok (.iaload, 1) := by decide +kernel
theorem dX9_cutsFrom_79 : decode cX9_cutsFrom 79 = .ok (.iload 4, 2) := by decide +kernel
theorem dX9_cutsFrom_81 : decode cX9_cutsFrom 81 = .ok (.iload_n 2, 1) := by decide +kernel
theorem dX9_cutsFrom_82 : decode cX9_cutsFrom 82 = .ok (.if_icmp .ne 7, 3) := by decide +kernel
theorem dX9_cutsFrom_85 : decode cX9_cutsFrom 85 = .ok (.iconst 0, 1) := by decide +kernel
theorem dX9_cutsFrom_86 : decode cX9_cutsFrom 86 = .ok (.goto 4, 3) := by decide +kernel
theorem dX9_cutsFrom_89 : decode cX9_cutsFrom 89 = .ok (.iconst 1, 1) := by decide +kernel
theorem dX9_cutsFrom_90 : decode cX9_cutsFrom 90 = .ok (.iadd, 1) := by decide +kernel
theorem dX9_cutsFrom_91 : decode cX9_cutsFrom 91 = .ok (.istore 6, 2) := by decide +kernel
theorem dX9_cutsFrom_93 : decode cX9_cutsFrom 93 = .ok (.iload 5, 2) := by decide +kernel
theorem dX9_cutsFrom_95 : decode cX9_cutsFrom 95 = .ok (.ifCond .eq 14, 3) := by decide +kernel
theorem dX9_cutsFrom_98 : decode cX9_cutsFrom 98 = .ok (.iload 6, 2) := by decide +kernel
theorem dX9_cutsFrom_100 : decode cX9_cutsFrom 100 = .ok (.iload_n 3, 1) := by decide +kernel
theorem dX9_cutsFrom_101 : decode cX9_cutsFrom 101 = .ok (.if_icmp .ge 8, 3) := by decide +kernel
theorem dX9_cutsFrom_104 : decode cX9_cutsFrom 104 = .ok (.iload 6, 2) := by decide +kernel
theorem dX9_cutsFrom_106 : decode cX9_cutsFrom 106 = .ok (.goto 4, 3) := by decide +kernel
theorem dX9_cutsFrom_109 : decode cX9_cutsFrom 109 = .ok (.iload_n 3, 1) := by decide +kernel
theorem dX9_cutsFrom_110 : decode cX9_cutsFrom 110 = .ok (.istore_n 3, 1) := by decide +kernel
theorem dX9_cutsFrom_111 : decode cX9_cutsFrom 111 = .ok (.iinc 4 1, 3) := by decide +kernel
theorem dX9_cutsFrom_114 : decode cX9_cutsFrom 114 = .ok (.goto (-82), 3) := by decide +kernel
theorem dX9_cutsFrom_117 : decode cX9_cutsFrom 117 = .ok (.iload_n 3, 1) := by decide +kernel
theorem dX9_cutsFrom_118 : decode cX9_cutsFrom 118 = .ok (.ireturn, 1) := by decide +kernel
theorem dX9_findCuts_0 : decode cX9_findCuts 0 = .ok (.aload_n 0, 1) := by decide +kernel
theorem dX9_findCuts_1 : decode cX9_findCuts 1 = .ok (.getfield 70, 3) := by decide +kernel
theorem dX9_findCuts_4 : decode cX9_findCuts 4 = .ok (.iconst 1, 1) := by decide +kernel
theorem dX9_findCuts_5 : decode cX9_findCuts 5 = .ok (.isub, 1) := by decide +kernel
theorem dX9_findCuts_6 : decode cX9_findCuts 6 = .ok (.istore_n 1, 1) := by decide +kernel
theorem dX9_findCuts_7 : decode cX9_findCuts 7 = .ok (.iload_n 1, 1) := by decide +kernel
theorem dX9_findCuts_8 : decode cX9_findCuts 8 = .ok (.ifCond .lt 42, 3) := by decide +kernel
theorem dX9_findCuts_11 : decode cX9_findCuts 11 = .ok (.iconst 0, 1) := by decide +kernel
theorem dX9_findCuts_12 : decode cX9_findCuts 12 = .ok (.istore_n 2, 1) := by decide +kernel
theorem dX9_findCuts_13 : decode cX9_findCuts 13 = .ok (.iload_n 2, 1) := by decide +kernel
theorem dX9_findCuts_14 : decode cX9_findCuts 14 = .ok (.aload_n 0, 1) := by decide +kernel
theorem dX9_findCuts_15 : decode cX9_findCuts 15 = .ok (.getfield 73, 3) := by decide +kernel
theorem dX9_findCuts_18 : decode cX9_findCuts 18 = .ok (.if_icmp .ge 26, 3) := by decide +kernel
theorem dX9_findCuts_21 : decode cX9_findCuts 21 = .ok (.aload_n 0, 1) := by decide +kernel
theorem dX9_findCuts_22 : decode cX9_findCuts 22 = .ok (.getfield 34, 3) := by decide +kernel
theorem dX9_findCuts_25 : decode cX9_findCuts 25 = .ok (.bipush 10, 2) := by decide +kernel
theorem dX9_findCuts_27 : decode cX9_findCuts 27 = .ok (.iload_n 1, 1) := by decide +kernel
theorem dX9_findCuts_28 : decode cX9_findCuts 28 = .ok (.imul, 1) := by decide +kernel
theorem dX9_findCuts_29 : decode cX9_findCuts 29 = .ok (.iload_n 2, 1) := by decide +kernel
theorem dX9_findCuts_30 : decode cX9_findCuts 30 = .ok (.iadd, 1) := by decide +kernel
theorem dX9_findCuts_31 : decode cX9_findCuts 31 = .ok (.aload_n 0, 1) := by decide +kernel
theorem dX9_findCuts_32 : decode cX9_findCuts 32 = .ok (.iload_n 1, 1) := by decide +kernel
theorem dX9_findCuts_33 : decode cX9_findCuts 33 = .ok (.iload_n 2, 1) := by decide +kernel
theorem dX9_findCuts_34 : decode cX9_findCuts 34 = .ok (.invokevirtual 129, 3) := by decide +kernel
theorem dX9_findCuts_37 : decode cX9_findCuts 37 = .ok (.iastore, 1) := by decide +kernel
theorem dX9_findCuts_38 : decode cX9_findCuts 38 = .ok (.iinc 2 1, 3) := by decide +kernel
theorem dX9_findCuts_41 : decode cX9_findCuts 41 = .ok (.goto (-28), 3) := by decide +kernel
theorem dX9_findCuts_44 : decode cX9_findCuts 44 = .ok (.iinc 1 (-1), 3) := by decide +kernel
theorem dX9_findCuts_47 : decode cX9_findCuts 47 = .ok (.goto (-40), 3) := by decide +kernel
theorem dX9_findCuts_50 : decode cX9_findCuts 50 = .ok (.return_, 1) := by decide +kernel
theorem dX9_fewestCuts_0 : decode cX9_fewestCuts 0 = .ok (.sipush 1000, 3) := by decide +kernel
theorem dX9_fewestCuts_3 : decode cX9_fewestCuts 3 = .ok (.istore_n 1, 1) := by decide +kernel
theorem dX9_fewestCuts_4 : decode cX9_fewestCuts 4 = .ok (.iconst 0, 1) := by decide +kernel
theorem dX9_fewestCuts_5 : decode cX9_fewestCuts 5 = .ok (.istore_n 2, 1) := by decide +kernel
theorem dX9_fewestCuts_6 : decode cX9_fewestCuts 6 = .ok (.iload_n 2, 1) := by decide +kernel
theorem dX9_fewestCuts_7 : decode cX9_fewestCuts 7 = .ok (.aload_n 0, 1) := by decide +kernel
theorem dX9_fewestCuts_8 : decode cX9_fewestCuts 8 = .ok (.getfield 73, 3) := by decide +kernel
theorem dX9_fewestCuts_11 : decode cX9_fewestCuts 11 = .ok (.if_icmp .ge 30, 3) := by decide +kernel
theorem dX9_fewestCuts_14 : decode cX9_fewestCuts 14 = .ok (.aload_n 0, 1) := by decide +kernel
theorem dX9_fewestCuts_15 : decode cX9_fewestCuts 15 = .ok (.getfield 34, 3) := by decide +kernel
theorem dX9_fewestCuts_18 : decode cX9_fewestCuts 18 = .ok (.iload_n 2, 1) := by decide +kernel
theorem dX9_fewestCuts_19 : decode cX9_fewestCuts 19 = .ok (.iaload, 1) := by decide +kernel
theorem dX9_fewestCuts_20 : decode cX9_fewestCuts 20 = .ok (.iload_n 1, 1) := by decide +kernel
theorem dX9_fewestCuts_21 : decode cX9_fewestCuts 21 = .ok (.if_icmp .ge 12, 3) := by decide +kernel
theorem dX9_fewestCuts_24 : decode cX9_fewestCuts 24 = .ok (.aload_n 0, 1) := by decide +kernel
theorem dX9_fewestCuts_25 : decode cX9_fewestCuts 25 = .ok (.getfield 34, 3) := by decide +kernel
theorem dX9_fewestCuts_28 : decode cX9_fewestCuts 28 = .ok (.iload_n 2, 1) := by decide +kernel
theorem dX9_fewestCuts_29 : decode cX9_fewestCuts 29 = .ok (.iaload, 1) := by decide +kernel
theorem dX9_fewestCuts_30 : decode cX9_fewestCuts 30 = .ok (.goto 4, 3) := by decide +kernel
