theorem dX0_init_0 : decode cX0_init 0 = .ok (.aload_n 0, 1) := by decide +kernel
theorem dX0_init_1 : decode cX0_init 1 = .ok (.invokespecial 3, 3) := by decide +kernel
theorem dX0_init_4 : decode cX0_init 4 = .ok (.aload_n 0, 1) := by decide +kernel
theorem dX0_init_5 : decode cX0_init 5 = .ok (.iconst (-1), 1) := by decide +kernel
theorem dX0_init_6 : decode cX0_init 6 = .ok (.putfield 9, 3) := by decide +kernel
theorem dX0_init_9 : decode cX0_init 9 = .ok (.aload_n 0, 1) := by decide +kernel
theorem dX0_init_10 : decode cX0_init 10 = .ok (.bipush 24, 2) := by decide +kernel
theorem dX0_init_12 : decode cX0_init 12 = .ok (.newarray .int, 2) := by decide +kernel
theorem dX0_init_14 : decode cX0_init 14 = .ok (.putfield 15, 3) := by decide +kernel
theorem dX0_init_17 : decode cX0_init 17 = .ok (.aload_n 0, 1) := by decide +kernel
theorem dX0_init_18 : decode cX0_init 18 = .ok (.invokevirtual 19, 3) := by decide +kernel
theorem dX0_init_21 : decode cX0_init 21 = .ok (.return_, 1) := by decide +kernel
theorem dX0_startPeople_0 : decode cX0_startPeople 0 = .ok (.iconst 0, 1) := by decide +kernel
theorem dX0_startPeople_1 : decode cX0_startPeople 1 = .ok (.istore_n 1, 1) := by decide +kernel
theorem dX0_startPeople_2 : decode cX0_startPeople 2 = .ok (.iload_n 1, 1) := by decide +kernel
theorem dX0_startPeople_3 : decode cX0_startPeople 3 = .ok (.bipush 8, 2) := by decide +kernel
theorem dX0_startPeople_5 : decode cX0_startPeople 5 = .ok (.if_icmp .ge 43, 3) := by decide +kernel
theorem dX0_startPeople_8 : decode cX0_startPeople 8 = .ok (.aload_n 0, 1) := by decide +kernel
theorem dX0_startPeople_9 : decode cX0_startPeople 9 = .ok (.getfield 15, 3) := by decide +kernel
theorem dX0_startPeople_12 : decode cX0_startPeople 12 = .ok (.iload_n 1, 1) := by decide +kernel
theorem dX0_startPeople_13 : decode cX0_startPeople 13 = .ok (.iconst 3, 1) := by decide +kernel
theorem dX0_startPeople_14 : decode cX0_startPeople 14 = .ok (.imul, 1) := by decide +kernel
theorem dX0_startPeople_15 : decode cX0_startPeople 15 = .ok (.iconst 0, 1) := by decide +kernel
theorem dX0_startPeople_16 : decode cX0_startPeople 16 = .ok (.iadd, 1) := by decide +kernel
theorem dX0_startPeople_17 : decode cX0_startPeople 17 = .ok (.bipush 30, 2) := by decide +kernel
theorem dX0_startPeople_19 : decode cX0_startPeople 19 = .ok (.iastore, 1) := by decide +kernel
theorem dX0_startPeople_20 : decode cX0_startPeople 20 = .ok (.aload_n 0, 1) := by decide +kernel
theorem dX0_startPeople_21 : decode cX0_startPeople 21 = .ok (.getfield 15, 3) := by decide +kernel
theorem dX0_startPeople_24 : decode cX0_startPeople 24 = .ok (.iload_n 1, 1) := by decide +kernel
theorem dX0_startPeople_25 : decode cX0_startPeople 25 = .ok (.iconst 3, 1) := by decide +kernel
theorem dX0_startPeople_26 : decode cX0_startPeople 26 = .ok (.imul, 1) := by decide +kernel
theorem dX0_startPeople_27 : decode cX0_startPeople 27 = .ok (.iconst 1, 1) := by decide +kernel
theorem dX0_startPeople_28 : decode cX0_startPeople 28 = .ok (.iadd, 1) := by decide +kernel
theorem dX0_startPeople_29 : decode cX0_startPeople 29 = .ok (.iconst 2, 1) := by decide +kernel
theorem dX0_startPeople_30 : decode cX0_startPeople 30 = .ok (.iastore, 1) := by decide +kernel
theorem dX0_startPeople_31 : decode cX0_startPeople 31 = .ok (.aload_n 0, 1) := by decide +kernel
theorem dX0_startPeople_32 : decode cX0_startPeople 32 = .ok (.getfield 15, 3) := by decide +kernel
theorem dX0_startPeople_35 : decode cX0_startPeople 35 = .ok (.iload_n 1, 1) := by decide +kernel
theorem dX0_startPeople_36 : decode cX0_startPeople 36 = .ok (.iconst 3, 1) := by decide +kernel
theorem dX0_startPeople_37 : decode cX0_startPeople 37 = .ok (.imul, 1) := by decide +kernel
theorem dX0_startPeople_38 : decode cX0_startPeople 38 = .ok (.iconst 2, 1) := by decide +kernel
theorem dX0_startPeople_39 : decode cX0_startPeople 39 = .ok (.iadd, 1) := by decide +kernel
theorem dX0_startPeople_40 : decode cX0_startPeople 40 = .ok (.iconst 0, 1) := by decide +kernel
theorem dX0_startPeople_41 : decode cX0_startPeople 41 = .ok (.iastore, 1) := by decide +kernel
theorem dX0_startPeople_42 : decode cX0_startPeople 42 = .ok (.iinc 1 1, 3) := by decide +kernel
theorem dX0_startPeople_45 : decode cX0_startPeople 45 = .ok (.goto (-43), 3) := by decide +kernel
theorem dX0_startPeople_48 : decode cX0_startPeople 48 = .ok (.return_, 1) := by decide +kernel
theorem dX0_copyFrom_0 : decode cX0_copyFrom 0 = .ok (.aload_n 0, 1) := by decide +kernel
theorem dX0_copyFrom_1 : decode cX0_copyFrom 1 = .ok (.aload_n 1, 1) := by decide +kernel
theorem dX0_copyFrom_2 : decode cX0_copyFrom 2 = .ok (.getfield 9, 3) := by decide +kernel
theorem dX0_copyFrom_5 : decode cX0_copyFrom 5 = .ok (.putfield 9, 3) := by decide +kernel
theorem dX0_copyFrom_8 : decode cX0_copyFrom 8 = .ok (.aload_n 1, 1) := by decide +kernel
theorem dX0_copyFrom_9 : decode cX0_copyFrom 9 = .ok (.getfield 15, 3) := by decide +kernel
theorem dX0_copyFrom_12 : decode cX0_copyFrom 12 = .ok (.iconst 0, 1) := by decide +kernel
theorem dX0_copyFrom_13 : decode cX0_copyFrom 13 = .ok (.aload_n 0, 1) := by decide +kernel
theorem dX0_copyFrom_14 : decode cX0_copyFrom 14 = .ok (.getfield 15, 3) := by decide +kernel
theorem dX0_copyFrom_17 : decode cX0_copyFrom 17 = .ok (.iconst 0, 1) := by decide +kernel
theorem dX0_copyFrom_18 : decode cX0_copyFrom 18 = .ok (.bipush 24, 2) := by decide +kernel
theorem dX0_copyFrom_20 : decode cX0_copyFrom 20 = .ok (.invokestatic 22, 3) := by decide +kernel
theorem dX0_copyFrom_23 : decode cX0_copyFrom 23 = .ok (.return_, 1) := by decide +kernel
theorem dX0_fits_0 : decode cX0_fits 0 = .ok (.iload_n 2, 1) := by decide +kernel
theorem dX0_fits_1 : decode cX0_fits 1 = .ok (.tableswitch 64 0 2 #[27, 44, 56], 27) := by decide +kernel
theorem dX0_fits_28 : decode cX0_fits 28 = .ok (.iload_n 3, 1) := by decide +kernel
theorem dX0_fits_29 : decode cX0_fits 29 = .ok (.iconst 1, 1) := by decide +kernel
theorem dX0_fits_30 : decode cX0_fits 30 = .ok (.aload_n 0, 1) := by decide +kernel
theorem dX0_fits_31 : decode cX0_fits 31 = .ok (.iload_n 1, 1) := by decide +kernel
theorem dX0_fits_32 : decode cX0_fits 32 = .ok (.iconst 1, 1) := by decide +kernel
theorem dX0_fits_33 : decode cX0_fits 33 = .ok (.invokevirtual 28, 3) := by decide +kernel
theorem dX0_fits_36 : decode cX0_fits 36 = .ok (.invokestatic 32, 3) := by decide +kernel
theorem dX0_fits_39 : decode cX0_fits 39 = .ok (.bipush 60, 2) := by decide +kernel
theorem dX0_fits_41 : decode cX0_fits 41 = .ok (.invokestatic 37, 3) := by decide +kernel
theorem dX0_fits_44 : decode cX0_fits 44 = .ok (.ireturn, 1) := by decide +kernel
theorem dX0_fits_45 : decode cX0_fits 45 = .ok (.iload_n 3, 1) := by decide +kernel
theorem dX0_fits_46 : decode cX0_fits 46 = .ok (.iconst 0, 1) := by decide +kernel
theorem dX0_fits_47 : decode cX0_fits 47 = .ok (.aload_n 0, 1) := by decide +kernel
theorem dX0_fits_48 : decode cX0_fits 48 = .ok (.iload_n 1, 1) := by decide +kernel
theorem dX0_fits_49 : decode cX0_fits 49 = .ok (.iconst 0, 1) := by decide +kernel
theorem dX0_fits_50 : decode cX0_fits 50 = .ok (.invokevirtual 28, 3) := by decide +kernel
theorem dX0_fits_53 : decode cX0_fits 53 = .ok (.invokestatic 37, 3) := by decide +kernel
theorem dX0_fits_56 : decode cX0_fits 56 = .ok (.ireturn, 1) := by decide +kernel
theorem dX0_fits_57 : decode cX0_fits 57 = .ok (.iload_n 3, 1) := by decide +kernel
theorem dX0_fits_58 : decode cX0_fits 58 = .ok (.iconst 0, 1) := by decide +kernel
theorem dX0_fits_59 : decode cX0_fits 59 = .ok (.bipush 59, 2) := by decide +kernel
theorem dX0_fits_61 : decode cX0_fits 61 = .ok (.invokestatic 37, 3) := by decide +kernel
theorem dX0_fits_64 : decode cX0_fits 64 = .ok (.ireturn, 1) := by decide +kernel
theorem dX0_fits_65 : decode cX0_fits 65 = .ok (.iconst 0, 1) := by decide +kernel
theorem dX0_fits_66 : decode cX0_fits 66 = .ok (.ireturn, 1) := by decide +kernel
theorem dX0_change_0 : decode cX0_change 0 = .ok (.aload_n 0, 1) := by decide +kernel
theorem dX0_change_1 : decode cX0_change 1 = .ok (.iload_n 1, 1) := by decide +kernel
theorem dX0_change_2 : decode cX0_change 2 = .ok (.iload_n 2, 1) := by decide +kernel
theorem dX0_change_3 : decode cX0_change 3 = .ok (.invokevirtual 28, 3) := by decide +kernel
theorem dX0_change_6 : decode cX0_change 6 = .ok (.istore 4, 2) := by decide +kernel
theorem dX0_change_8 : decode cX0_change 8 = .ok (.aload_n 0, 1) := by decide +kernel
theorem dX0_change_9 : decode cX0_change 9 = .ok (.getfield 15, 3) := by decide +kernel
theorem dX0_change_12 : decode cX0_change 12 = .ok (.iload_n 1, 1) := by decide +kernel
theorem dX0_change_13 : decode cX0_change 13 = .ok (.iconst 3, 1) := by decide +kernel
theorem dX0_change_14 : decode cX0_change 14 = .ok (.imul, 1) := by decide +kernel
theorem dX0_change_15 : decode cX0_change 15 = .ok (.iload_n 2, 1) := by decide +kernel
theorem dX0_change_16 : decode cX0_change 16 = .ok (.iadd, 1) := by decide +kernel
theorem dX0_change_17 : decode cX0_change 17 = .ok (.iload_n 3, 1) := by decide +kernel
theorem dX0_change_18 : decode cX0_change 18 = .ok (.iastore, 1) := by decide +kernel
theorem dX0_change_19 : decode cX0_change 19 = .ok (.iload 4, 2) := by decide +kernel
theorem dX0_change_21 : decode cX0_change 21 = .ok (.ireturn, 1) := by decide +kernel
theorem dX0_settingOf_0 : decode cX0_settingOf 0 = .ok (.aload_n 0, 1) := by decide +kernel
theorem dX0_settingOf_1 : decode cX0_settingOf 1 = .ok (.getfield 15, 3) := by decide +kernel
theorem dX0_settingOf_4 : decode cX0_settingOf 4 = .ok (.iload_n 1, 1) := by decide +kernel
theorem dX0_settingOf_5 : decode cX0_settingOf 5 = .ok (.iconst 3, 1) := by decide +kernel
theorem dX0_settingOf_6 : decode cX0_settingOf 6 = .ok (.imul, 1) := by decide +kernel
theorem dX0_settingOf_7 : decode cX0_settingOf 7 = .ok (.iload_n 2, 1) := by decide +kernel
theorem dX0_settingOf_8 : decode cX0_settingOf 8 = .ok (.iadd, 1) := by decide +kernel
theorem dX0_settingOf_9 : decode cX0_settingOf 9 = .ok (.iaload, 1) := by decide +kernel
theorem dX0_settingOf_10 : decode cX0_settingOf 10 = .ok (.ireturn, 1) := by decide +kernel
theorem dX0_openAt_0 : decode cX0_openAt 0 = .ok (.aload_n 0, 1) := by decide +kernel
theorem dX0_openAt_1 : decode cX0_openAt 1 = .ok (.iload_n 1, 1) := by decide +kernel
theorem dX0_openAt_2 : decode cX0_openAt 2 = .ok (.invokevirtual 41, 3) := by decide +kernel
theorem dX0_openAt_5 : decode cX0_openAt 5 = .ok (.ifCond .eq 5, 3) := by decide +kernel
theorem dX0_openAt_8 : decode cX0_openAt 8 = .ok (.iconst 0, 1) := by decide +kernel
theorem dX0_openAt_9 : decode cX0_openAt 9 = .ok (.ireturn, 1) := by decide +kernel
theorem dX0_openAt_10 : decode cX0_openAt 10 = .ok (.iconst 0, 1) := by decide +kernel
theorem dX0_openAt_11 : decode cX0_openAt 11 = .ok (.istore_n 3, 1) := by decide +kernel
theorem dX0_openAt_12 : decode cX0_openAt 12 = .ok (.iconst 0, 1) := by decide +kernel
theorem dX0_openAt_13 : decode cX0_openAt 13 = .ok (.istore 4, 2) := by decide +kernel
theorem dX0_openAt_15 : decode cX0_openAt 15 = .ok (.iload 4, 2) := by decide +kernel
theorem dX0_openAt_17 : decode cX0_openAt 17 = .ok (.iload_n 2, 1) := by decide +kernel
theorem dX0_openAt_18 : decode cX0_openAt 18 = .ok (.if_icmp .ge 26, 3) := by decide +kernel
theorem dX0_openAt_21 : decode cX0_openAt 21 = .ok (.aload_n 0, 1) := by decide +kernel
theorem dX0_openAt_22 : decode cX0_openAt 22 = .ok (.iload 4, 2) := by decide +kernel
theorem dX0_openAt_24 : decode cX0_openAt 24 = .ok (.iload_n 1, 1) := by decide +kernel
theorem dX0_openAt_25 : decode cX0_openAt 25 = .ok (.invokevirtual 45, 3) := by decide +kernel
theorem dX0_openAt_28 : decode cX0_openAt 28 = .ok (.ifCond .ne 10, 3) := by decide +kernel
theorem dX0_openAt_31 : decode cX0_openAt 31 = .ok (.iload_n 3, 1) := by decide +kernel
theorem dX0_openAt_32 : decode cX0_openAt 32 = .ok (.iconst 1, 1) := by decide +kernel
theorem dX0_openAt_33 : decode cX0_openAt 33 = .ok (.iload 4, 2) := by decide +kernel
theorem dX0_openAt_35 : decode cX0_openAt 35 = .ok (.ishl, 1) := by decide +kernel
theorem dX0_openAt_36 : decode cX0_openAt 36 = .ok (.ior, 1) := by decide +kernel
theorem dX0_openAt_37 : decode cX0_openAt 37 = .ok (.istore_n 3, 1) := by decide +kernel
theorem dX0_openAt_38 : decode cX0_openAt 38 = .ok (.iinc 4 1, 3) := by decide +kernel
theorem dX0_openAt_41 : decode cX0_openAt 41 = .ok (.goto (-26), 3) := by decide +kernel
theorem dX0_openAt_44 : decode cX0_openAt 44 = .ok (.iload_n 3, 1) := by decide +kernel
theorem dX0_openAt_45 : decode cX0_openAt 45 = .ok (.ireturn, 1) := by decide +kernel
theorem dX0_isFlashed_0 : decode cX0_isFlashed 0 = .ok (.aload_n 0, 1) := by decide +kernel
theorem dX0_isFlashed_1 : decode cX0_isFlashed 1 = .ok (.getfield 9, 3) := by decide +kernel
theorem dX0_isFlashed_4 : decode cX0_isFlashed 4 = .ok (.ifCond .lt 27, 3) := by decide +kernel
theorem dX0_isFlashed_7 : decode cX0_isFlashed 7 = .ok (.iload_n 1, 1) := by decide +kernel
theorem dX0_isFlashed_8 : decode cX0_isFlashed 8 = .ok (.aload_n 0, 1) := by decide +kernel
theorem dX0_isFlashed_9 : decode cX0_isFlashed 9 = .ok (.getfield 9, 3) := by decide +kernel
theorem dX0_isFlashed_12 : decode cX0_isFlashed 12 = .ok (.iconst 1, 1) := by decide +kernel
theorem dX0_isFlashed_13 : decode cX0_isFlashed 13 = .ok (.iadd, 1) := by decide +kernel
theorem dX0_isFlashed_14 : decode cX0_isFlashed 14 = .ok (.if_icmp .eq 13, 3) := by decide +kernel
theorem dX0_isFlashed_17 : decode cX0_isFlashed 17 = .ok (.iload_n 1, 1) := by decide +kernel
theorem dX0_isFlashed_18 : decode cX0_isFlashed 18 = .ok (.aload_n 0, 1) := by decide +kernel
theorem dX0_isFlashed_19 : decode cX0_isFlashed 19 = .ok (.getfield 9, 3) := by decide +kernel
theorem dX0_isFlashed_22 : decode cX0_isFlashed 22 = .ok (.iconst 2, 1) := by decide +kernel
theorem dX0_isFlashed_23 : decode cX0_isFlashed 23 = .ok (.iadd, 1) := by decide +kernel
theorem dX0_isFlashed_24 : decode cX0_isFlashed 24 = .ok (.if_icmp .ne 7, 3) := by decide +kernel
theorem dX0_isFlashed_27 : decode cX0_isFlashed 27 = .ok (.iconst 1, 1) := by decide +kernel
theorem dX0_isFlashed_28 : decode cX0_isFlashed 28 = .ok (.goto 4, 3) := by decide +kernel
theorem dX0_isFlashed_31 : decode cX0_isFlashed 31 = .ok (.iconst 0, 1) := by decide +kernel
theorem dX0_isFlashed_32 : decode cX0_isFlashed 32 = .ok (.ireturn, 1) := by decide +kernel
theorem dX0_isShut_0 : decode cX0_isShut 0 = .ok (.aload_n 0, 1) := by decide +kernel
theorem dX0_isShut_1 : decode cX0_isShut 1 = .ok (.iload_n 1, 1) := by decide +kernel
theorem dX0_isShut_2 : decode cX0_isShut 2 = .ok (.iconst 0, 1) := by decide +kernel
theorem dX0_isShut_3 : decode cX0_isShut 3 = .ok (.invokevirtual 28, 3) := by decide +kernel
theorem dX0_isShut_6 : decode cX0_isShut 6 = .ok (.istore_n 3, 1) := by decide +kernel
theorem dX0_isShut_7 : decode cX0_isShut 7 = .ok (.iload_n 3, 1) := by decide +kernel
theorem dX0_isShut_8 : decode cX0_isShut 8 = .ok (.iconst 1, 1) := by decide +kernel
theorem dX0_isShut_9 : decode cX0_isShut 9 = .ok (.if_icmp .ge 5, 3) := by decide +kernel
theorem dX0_isShut_12 : decode cX0_isShut 12 = .ok (.iconst 0, 1) := by decide +kernel
theorem dX0_isShut_13 : decode cX0_isShut 13 = .ok (.ireturn, 1) := by decide +kernel
theorem dX0_isShut_14 : decode cX0_isShut 14 = .ok (.iload_n 2, 1) := by decide +kernel
theorem dX0_isShut_15 : decode cX0_isShut 15 = .ok (.aload_n 0, 1) := by decide +kernel
theorem dX0_isShut_16 : decode cX0_isShut 16 = .ok (.iload_n 1, 1) := by decide +kernel
theorem dX0_isShut_17 : decode cX0_isShut 17 = .ok (.iconst 2, 1) := by decide +kernel
theorem dX0_isShut_18 : decode cX0_isShut 18 = .ok (.invokevirtual 28, 3) := by decide +kernel
theorem dX0_isShut_21 : decode cX0_isShut 21 = .ok (.iadd, 1) := by decide +kernel
theorem dX0_isShut_22 : decode cX0_isShut 22 = .ok (.iload_n 3, 1) := by decide +kernel
theorem dX0_isShut_23 : decode cX0_isShut 23 = .ok (.irem, 1) := by decide +kernel
theorem dX0_isShut_24 : decode cX0_isShut 24 = .ok (.aload_n 0, 1) := by decide +kernel
theorem dX0_isShut_25 : decode cX0_isShut 25 = .ok (.iload_n 1, 1) := by decide +kernel
theorem dX0_isShut_26 : decode cX0_isShut 26 = .ok (.iconst 1, 1) := by decide +kernel
theorem dX0_isShut_27 : decode cX0_isShut 27 = .ok (.invokevirtual 28, 3) := by decide +kernel
theorem dX0_isShut_30 : decode cX0_isShut 30 = .ok (.if_icmp .ge 7, 3) := by decide +kernel
theorem dX0_isShut_33 : decode cX0_isShut 33 = .ok (.iconst 1, 1) := by decide +kernel
theorem dX0_isShut_34 : decode cX0_isShut 34 = .ok (.goto 4, 3) := by decide +kernel
theorem dX0_isShut_37 : decode cX0_isShut 37 = .ok (.iconst 0, 1) := by decide +kernel
theorem dX0_isShut_38 : decode cX0_isShut 38 = .ok (.ireturn, 1) := by decide +kernel
theorem dX0_bestTenth_0 : decode cX0_bestTenth 0 = .ok (.iload_n 1, 1) := by decide +kernel
theorem dX0_bestTenth_1 : decode cX0_bestTenth 1 = .ok (.istore 4, 2) := by decide +kernel
theorem dX0_bestTenth_3 : decode cX0_bestTenth 3 = .ok (.iconst (-1), 1) := by decide +kernel
theorem dX0_bestTenth_4 : decode cX0_bestTenth 4 = .ok (.istore 5, 2) := by decide +kernel
theorem dX0_bestTenth_6 : decode cX0_bestTenth 6 = .ok (.iload_n 1, 1) := by decide +kernel
theorem dX0_bestTenth_7 : decode cX0_bestTenth 7 = .ok (.istore 6, 2) := by decide +kernel
theorem dX0_bestTenth_9 : decode cX0_bestTenth 9 = .ok (.iload 6, 2) := by decide +kernel
theorem dX0_bestTenth_11 : decode cX0_bestTenth 11 = .ok (.iload_n 2, 1) := by decide +kernel
theorem dX0_bestTenth_12 : decode cX0_bestTenth 12 = .ok (.if_icmp .gt 42, 3) := by decide +kernel
theorem dX0_bestTenth_15 : decode cX0_bestTenth 15 = .ok (.iload 5, 2) := by decide +kernel
theorem dX0_bestTenth_17 : decode cX0_bestTenth 17 = .ok (.iload_n 3, 1) := by decide +kernel
theorem dX0_bestTenth_18 : decode cX0_bestTenth 18 = .ok (.if_icmp .ge 36, 3) := by decide +kernel
theorem dX0_bestTenth_21 : decode cX0_bestTenth 21 = .ok (.aload_n 0, 1) := by decide +kernel
theorem dX0_bestTenth_22 : decode cX0_bestTenth 22 = .ok (.iload 6, 2) := by decide +kernel
theorem dX0_bestTenth_24 : decode cX0_bestTenth 24 = .ok (.iload_n 3, 1) := by decide +kernel
theorem dX0_bestTenth_25 : decode cX0_bestTenth 25 = .ok (.invokevirtual 49, 3) := by decide +kernel
theorem dX0_bestTenth_28 : decode cX0_bestTenth 28 = .ok (.invokestatic 52, 3) := by decide +kernel
theorem dX0_bestTenth_31 : decode cX0_bestTenth 31 = .ok (.istore 7, 2) := by decide +kernel
theorem dX0_bestTenth_33 : decode cX0_bestTenth 33 = .ok (.iload 7, 2) := by decide +kernel
theorem dX0_bestTenth_35 : decode cX0_bestTenth 35 = .ok (.iload 5, 2) := by decide +kernel
theorem dX0_bestTenth_37 : decode cX0_bestTenth 37 = .ok (.if_icmp .le 11, 3) := by decide +kernel
theorem dX0_bestTenth_40 : decode cX0_bestTenth 40 = .ok (.iload 6, 2) := by decide +kernel
theorem dX0_bestTenth_42 : decode cX0_bestTenth 42 = .ok (.istore 4, 2) := by decide +kernel
theorem dX0_bestTenth_44 : decode cX0_bestTenth 44 = .ok (.iload 7, 2) := by decide +kernel
theorem dX0_bestTenth_46 : decode cX0_bestTenth 46 = .ok (.istore 5, 2) := by decide +kernel
theorem dX0_bestTenth_48 : decode cX0_bestTenth 48 = .ok (.iinc 6 1, 3) := by decide +kernel
theorem dX0_bestTenth_51 : decode cX0_bestTenth 51 = .ok (.goto (-42), 3) := by decide +kernel
theorem dX0_bestTenth_54 : decode cX0_bestTenth 54 = .ok (.iload 4, 2) := by decide +kernel
theorem dX0_bestTenth_56 : decode cX0_bestTenth 56 = .ok (.ireturn, 1) := by decide +kernel
theorem dX0_tenthsOfAll_0 : decode cX0_tenthsOfAll 0 = .ok (.iconst 1, 1) := by decide +kernel
theorem dX0_tenthsOfAll_1 : decode cX0_tenthsOfAll 1 = .ok (.iload_n 3, 1) := by decide +kernel
theorem dX0_tenthsOfAll_2 : decode cX0_tenthsOfAll 2 = .ok (.ishl, 1) := by decide +kernel
theorem dX0_tenthsOfAll_3 : decode cX0_tenthsOfAll 3 = .ok (.iconst 1, 1) := by decide +kernel
theorem dX0_tenthsOfAll_4 : decode cX0_tenthsOfAll 4 = .ok (.isub, 1) := by decide +kernel
theorem dX0_tenthsOfAll_5 : decode cX0_tenthsOfAll 5 = .ok (.istore 4, 2) := by decide +kernel
theorem dX0_tenthsOfAll_7 : decode cX0_tenthsOfAll 7 = .ok (.iconst 0, 1) := by decide +kernel
theorem dX0_tenthsOfAll_8 : decode cX0_tenthsOfAll 8 = .ok (.istore 5, 2) := by decide +kernel
theorem dX0_tenthsOfAll_10 : decode cX0_tenthsOfAll 10 = .ok (.iload_n 1, 1) := by decide +kernel
theorem dX0_tenthsOfAll_11 : decode cX0_tenthsOfAll 11 = .ok (.istore 6, 2) := by decide +kernel
theorem dX0_tenthsOfAll_13 : decode cX0_tenthsOfAll 13 = .ok (.iload 6, 2) := by decide +kernel
theorem dX0_tenthsOfAll_15 : decode cX0_tenthsOfAll 15 = .ok (.iload_n 2, 1) := by decide +kernel
theorem dX0_tenthsOfAll_16 : decode cX0_tenthsOfAll 16 = .ok (.if_icmp .gt 24, 3) := by decide +kernel
theorem dX0_tenthsOfAll_19 : decode cX0_tenthsOfAll 19 = .ok (.aload_n 0, 1) := by decide +kernel
theorem dX0_tenthsOfAll_20 : decode cX0_tenthsOfAll 20 = .ok (.iload 6, 2) := by decide +kernel
theorem dX0_tenthsOfAll_22 : decode cX0_tenthsOfAll 22 = .ok (.iload_n 3, 1) := by decide +kernel
theorem dX0_tenthsOfAll_23 : decode cX0_tenthsOfAll 23 = .ok (.invokevirtual 49, 3) := by decide +kernel
theorem dX0_tenthsOfAll_26 : decode cX0_tenthsOfAll 26 = .ok (.iload 4, 2) := by decide +kernel
theorem dX0_tenthsOfAll_28 : decode cX0_tenthsOfAll 28 = .ok (.if_icmp .ne 6, 3) := by decide +kernel
theorem dX0_tenthsOfAll_31 : decode cX0_tenthsOfAll 31 = .ok (.iinc 5 1, 3) := by decide +kernel
theorem dX0_tenthsOfAll_34 : decode cX0_tenthsOfAll 34 = .ok (.iinc 6 1, 3) := by decide +kernel
theorem dX0_tenthsOfAll_37 : decode cX0_tenthsOfAll 37 = .ok (.goto (-24), 3) := by decide +kernel
theorem dX0_tenthsOfAll_40 : decode cX0_tenthsOfAll 40 = .ok (.iload 5, 2) := by decide +kernel
theorem dX0_tenthsOfAll_42 : decode cX0_tenthsOfAll 42 = .ok (.ireturn, 1) := by decide +kernel
theorem dX1_init_0 : decode cX1_init 0 = .ok (.aload_n 0, 1) := by decide +kernel
theorem dX1_init_1 : decode cX1_init 1 = .ok (.invokespecial 3, 3) := by decide +kernel
theorem dX1_init_4 : decode cX1_init 4 = .ok (.aload_n 0, 1) := by decide +kernel
theorem dX1_init_5 : decode cX1_init 5 = .ok (.bipush 80, 2) := by decide +kernel
theorem dX1_init_7 : decode cX1_init 7 = .ok (.newarray .int, 2) := by decide +kernel
theorem dX1_init_9 : decode cX1_init 9 = .ok (.putfield 9, 3) := by decide +kernel
theorem dX1_init_12 : decode cX1_init 12 = .ok (.aload_n 0, 1) := by decide +kernel
theorem dX1_init_13 : decode cX1_init 13 = .ok (.bipush 8, 2) := by decide +kernel
theorem dX1_init_15 : decode cX1_init 15 = .ok (.newarray .int, 2) := by decide +kernel
theorem dX1_init_17 : decode cX1_init 17 = .ok (.putfield 15, 3) := by decide +kernel
theorem dX1_init_20 : decode cX1_init 20 = .ok (.return_, 1) := by decide +kernel
theorem dX1_shotOf_0 : decode cX1_shotOf 0 = .ok (.aload_n 0, 1) := by decide +kernel
theorem dX1_shotOf_1 : decode cX1_shotOf 1 = .ok (.getfield 15, 3) := by decide +kernel
theorem dX1_shotOf_4 : decode cX1_shotOf 4 = .ok (.iload_n 1, 1) := by decide +kernel
theorem dX1_shotOf_5 : decode cX1_shotOf 5 = .ok (.iaload, 1) := by decide +kernel
theorem dX1_shotOf_6 : decode cX1_shotOf 6 = .ok (.ireturn, 1) := by decide +kernel
theorem dX1_solve_0 : decode cX1_solve 0 = .ok (.iconst 0, 1) := by decide +kernel
theorem dX1_solve_1 : decode cX1_solve 1 = .ok (.istore_n 3, 1) := by decide +kernel
theorem dX1_solve_2 : decode cX1_solve 2 = .ok (.iload_n 2, 1) := by decide +kernel
theorem dX1_solve_3 : decode cX1_solve 3 = .ok (.iconst 1, 1) := by decide +kernel
theorem dX1_solve_4 : decode cX1_solve 4 = .ok (.isub, 1) := by decide +kernel
theorem dX1_solve_5 : decode cX1_solve 5 = .ok (.istore 4, 2) := by decide +kernel
theorem dX1_solve_7 : decode cX1_solve 7 = .ok (.iload 4, 2) := by decide +kernel
theorem dX1_solve_9 : decode cX1_solve 9 = .ok (.ifCond .lt 31, 3) := by decide +kernel
theorem dX1_solve_12 : decode cX1_solve 12 = .ok (.aload_n 0, 1) := by decide +kernel
theorem dX1_solve_13 : decode cX1_solve 13 = .ok (.aload_n 1, 1) := by decide +kernel
theorem dX1_solve_14 : decode cX1_solve 14 = .ok (.iload 4, 2) := by decide +kernel
theorem dX1_solve_16 : decode cX1_solve 16 = .ok (.iload 4, 2) := by decide +kernel
theorem dX1_solve_18 : decode cX1_solve 18 = .ok (.iload_n 2, 1) := by decide +kernel
theorem dX1_solve_19 : decode cX1_solve 19 = .ok (.iconst 1, 1) := by decide +kernel
theorem dX1_solve_20 : decode cX1_solve 20 = .ok (.isub, 1) := by decide +kernel
theorem dX1_solve_21 : decode cX1_solve 21 = .ok (.if_icmp .ne 7, 3) := by decide +kernel
theorem dX1_solve_24 : decode cX1_solve 24 = .ok (.iconst 1, 1) := by decide +kernel
theorem dX1_solve_25 : decode cX1_solve 25 = .ok (.goto 4, 3) := by decide +kernel
theorem dX1_solve_28 : decode cX1_solve 28 = .ok (.iconst 0, 1) := by decide +kernel
theorem dX1_solve_29 : decode cX1_solve 29 = .ok (.iload_n 3, 1) := by decide +kernel
theorem dX1_solve_30 : decode cX1_solve 30 = .ok (.invokevirtual 18, 3) := by decide +kernel
theorem dX1_solve_33 : decode cX1_solve 33 = .ok (.istore_n 3, 1) := by decide +kernel
theorem dX1_solve_34 : decode cX1_solve 34 = .ok (.iinc 4 (-1), 3) := by decide +kernel
theorem dX1_solve_37 : decode cX1_solve 37 = .ok (.goto (-30), 3) := by decide +kernel
theorem dX1_solve_40 : decode cX1_solve 40 = .ok (.iload_n 3, 1) := by decide +kernel
theorem dX1_solve_41 : decode cX1_solve 41 = .ok (.sipush 1000, 3) := by decide +kernel
theorem dX1_solve_44 : decode cX1_solve 44 = .ok (.if_icmp .lt 6, 3) := by decide +kernel
theorem dX1_solve_47 : decode cX1_solve 47 = .ok (.bipush (-6), 2) := by decide +kernel
theorem dX1_solve_49 : decode cX1_solve 49 = .ok (.ireturn, 1) := by decide +kernel
theorem dX1_solve_50 : decode cX1_solve 50 = .ok (.aload_n 0, 1) := by decide +kernel
theorem dX1_solve_51 : decode cX1_solve 51 = .ok (.aload_n 1, 1) := by decide +kernel
theorem dX1_solve_52 : decode cX1_solve 52 = .ok (.iload_n 2, 1) := by decide +kernel
theorem dX1_solve_53 : decode cX1_solve 53 = .ok (.invokevirtual 22, 3) := by decide +kernel
theorem dX1_solve_56 : decode cX1_solve 56 = .ok (.iload_n 3, 1) := by decide +kernel
theorem dX1_solve_57 : decode cX1_solve 57 = .ok (.ireturn, 1) := by decide +kernel
theorem dX1_fillRow_0 : decode cX1_fillRow 0 = .ok (.sipush 1000, 3) := by decide +kernel
theorem dX1_fillRow_3 : decode cX1_fillRow 3 = .ok (.istore 5, 2) := by decide +kernel
theorem dX1_fillRow_5 : decode cX1_fillRow 5 = .ok (.iconst 0, 1) := by decide +kernel
theorem dX1_fillRow_6 : decode cX1_fillRow 6 = .ok (.istore 6, 2) := by decide +kernel
theorem dX1_fillRow_8 : decode cX1_fillRow 8 = .ok (.iload 6, 2) := by decide +kernel
theorem dX1_fillRow_10 : decode cX1_fillRow 10 = .ok (.aload_n 1, 1) := by decide +kernel
theorem dX1_fillRow_11 : decode cX1_fillRow 11 = .ok (.getfield 26, 3) := by decide +kernel
theorem dX1_fillRow_14 : decode cX1_fillRow 14 = .ok (.if_icmp .ge 67, 3) := by decide +kernel
theorem dX1_fillRow_17 : decode cX1_fillRow 17 = .ok (.sipush 1000, 3) := by decide +kernel
theorem dX1_fillRow_20 : decode cX1_fillRow 20 = .ok (.istore 7, 2) := by decide +kernel
theorem dX1_fillRow_22 : decode cX1_fillRow 22 = .ok (.aload_n 1, 1) := by decide +kernel
theorem dX1_fillRow_23 : decode cX1_fillRow 23 = .ok (.iload 6, 2) := by decide +kernel
theorem dX1_fillRow_25 : decode cX1_fillRow 25 = .ok (.iload_n 2, 1) := by decide +kernel
theorem dX1_fillRow_26 : decode cX1_fillRow 26 = .ok (.invokevirtual 32, 3) := by decide +kernel
theorem dX1_fillRow_29 : decode cX1_fillRow 29 = .ok (.ifCond .eq 23, 3) := by decide +kernel
theorem dX1_fillRow_32 : decode cX1_fillRow 32 = .ok (.iload_n 3, 1) := by decide +kernel
theorem dX1_fillRow_33 : decode cX1_fillRow 33 = .ok (.ifCond .eq 7, 3) := by decide +kernel
theorem dX1_fillRow_36 : decode cX1_fillRow 36 = .ok (.iconst 0, 1) := by decide +kernel
theorem dX1_fillRow_37 : decode cX1_fillRow 37 = .ok (.goto 13, 3) := by decide +kernel
theorem dX1_fillRow_40 : decode cX1_fillRow 40 = .ok (.aload_n 0, 1) := by decide +kernel
theorem dX1_fillRow_41 : decode cX1_fillRow 41 = .ok (.aload_n 1, 1) := by decide +kernel
theorem dX1_fillRow_42 : decode cX1_fillRow 42 = .ok (.iload_n 2, 1) := by decide +kernel
theorem dX1_fillRow_43 : decode cX1_fillRow 43 = .ok (.iload 6, 2) := by decide +kernel
theorem dX1_fillRow_45 : decode cX1_fillRow 45 = .ok (.iload 4, 2) := by decide +kernel
theorem dX1_fillRow_47 : decode cX1_fillRow 47 = .ok (.invokevirtual 36, 3) := by decide +kernel
theorem dX1_fillRow_50 : decode cX1_fillRow 50 = .ok (.istore 7, 2) := by decide +kernel
theorem dX1_fillRow_52 : decode cX1_fillRow 52 = .ok (.aload_n 0, 1) := by decide +kernel
theorem dX1_fillRow_53 : decode cX1_fillRow 53 = .ok (.getfield 9, 3) := by decide +kernel
theorem dX1_fillRow_56 : decode cX1_fillRow 56 = .ok (.iload_n 2, 1) := by decide +kernel
theorem dX1_fillRow_57 : decode cX1_fillRow 57 = .ok (.bipush 10, 2) := by decide +kernel
theorem dX1_fillRow_59 : decode cX1_fillRow 59 = .ok (.imul, 1) := by decide +kernel
theorem dX1_fillRow_60 : decode cX1_fillRow 60 = .ok (.iload 6, 2) := by decide +kernel
theorem dX1_fillRow_62 : decode cX1_fillRow 62 = .ok (.iadd, 1) := by decide +kernel
theorem dX1_fillRow_63 : decode cX1_fillRow 63 = .ok (.iload 7, 2) := by decide +kernel
theorem dX1_fillRow_65 : decode cX1_fillRow 65 = .ok (.iastore, 1) := by decide +kernel
theorem dX1_fillRow_66 : decode cX1_fillRow 66 = .ok (.iload 5, 2) := by decide +kernel
theorem dX1_fillRow_68 : decode cX1_fillRow 68 = .ok (.iload 7, 2) := by decide +kernel
theorem dX1_fillRow_70 : decode cX1_fillRow 70 = .ok (.invokestatic 40, 3) := by decide +kernel
theorem dX1_fillRow_73 : decode cX1_fillRow 73 = .ok (.istore 5, 2) := by decide +kernel
theorem dX1_fillRow_75 : decode cX1_fillRow 75 = .ok (.iinc 6 1, 3) := by decide +kernel
theorem dX1_fillRow_78 : decode cX1_fillRow 78 = .ok (.goto (-70), 3) := by decide +kernel
theorem dX1_fillRow_81 : decode cX1_fillRow 81 = .ok (.iload 5, 2) := by decide +kernel
theorem dX1_fillRow_83 : decode cX1_fillRow 83 = .ok (.ireturn, 1) := by decide +kernel
theorem dX1_cutsBehind_0 : decode cX1_cutsBehind 0 = .ok (.aload_n 0, 1) := by decide +kernel
theorem dX1_cutsBehind_1 : decode cX1_cutsBehind 1 = .ok (.getfield 9, 3) := by decide +kernel
theorem dX1_cutsBehind_4 : decode cX1_cutsBehind 4 = .ok (.iload_n 2, 1) := by decide +kernel
theorem dX1_cutsBehind_5 : decode cX1_cutsBehind 5 = .ok (.iconst 1, 1) := by decide +kernel
theorem dX1_cutsBehind_6 : decode cX1_cutsBehind 6 = .ok (.iadd, 1) := by decide +kernel
theorem dX1_cutsBehind_7 : decode cX1_cutsBehind 7 = .ok (.bipush 10, 2) := by decide +kernel
theorem dX1_cutsBehind_9 : decode cX1_cutsBehind 9 = .ok (.imul, 1) := by decide +kernel
theorem dX1_cutsBehind_10 : decode cX1_cutsBehind 10 = .ok (.iload_n 3, 1) := by decide +kernel
theorem dX1_cutsBehind_11 : decode cX1_cutsBehind 11 = .ok (.iadd, 1) := by decide +kernel
theorem dX1_cutsBehind_12 : decode cX1_cutsBehind 12 = .ok (.iaload, 1) := by decide +kernel
theorem dX1_cutsBehind_13 : decode cX1_cutsBehind 13 = .ok (.istore 5, 2) := by decide +kernel
theorem dX1_cutsBehind_15 : decode cX1_cutsBehind 15 = .ok (.aload_n 1, 1) := by decide +kernel
theorem dX1_cutsBehind_16 : decode cX1_cutsBehind 16 = .ok (.iload_n 2, 1) := by decide +kernel
theorem dX1_cutsBehind_17 : decode cX1_cutsBehind 17 = .ok (.invokevirtual 46, 3) := by decide +kernel
theorem dX1_cutsBehind_20 : decode cX1_cutsBehind 20 = .ok (.ifCond .eq 6, 3) := by decide +kernel
theorem dX1_cutsBehind_23 : decode cX1_cutsBehind 23 = .ok (.iload 5, 2) := by decide +kernel
theorem dX1_cutsBehind_25 : decode cX1_cutsBehind 25 = .ok (.ireturn, 1) := by decide +kernel
theorem dX1_cutsBehind_26 : decode cX1_cutsBehind 26 = .ok (.sipush 1000, 3) := by decide +kernel
theorem dX1_cutsBehind_29 : decode cX1_cutsBehind 29 = .ok (.iload 5, 2) := by decide +kernel
theorem dX1_cutsBehind_31 : decode cX1_cutsBehind 31 = .ok (.iload 4, 2) := by decide +kernel
theorem dX1_cutsBehind_33 : decode cX1_cutsBehind 33 = .ok (.iconst 1, 1) := by decide +kernel
theorem dX1_cutsBehind_34 : decode cX1_cutsBehind 34 = .ok (.iadd, 1) := by decide +kernel
theorem dX1_cutsBehind_35 : decode cX1_cutsBehind 35 = .ok (.invokestatic 40, 3) := by decide +kernel
theorem dX1_cutsBehind_38 : decode cX1_cutsBehind 38 = .ok (.invokestatic 40, 3) := by decide +kernel
theorem dX1_cutsBehind_41 : decode cX1_cutsBehind 41 = .ok (.ireturn, 1) := by decide +kernel
theorem dX1_choose_0 : decode cX1_choose 0 = .ok (.aload_n 0, 1) := by decide +kernel
theorem dX1_choose_1 : decode cX1_choose 1 = .ok (.getfield 15, 3) := by decide +kernel
theorem dX1_choose_4 : decode cX1_choose 4 = .ok (.iconst 0, 1) := by decide +kernel
theorem dX1_choose_5 : decode cX1_choose 5 = .ok (.aload_n 0, 1) := by decide +kernel
theorem dX1_choose_6 : decode cX1_choose 6 = .ok (.aload_n 1, 1) := by decide +kernel
theorem dX1_choose_7 : decode cX1_choose 7 = .ok (.getfield 26, 3) := by decide +kernel
theorem dX1_choose_10 : decode cX1_choose 10 = .ok (.invokevirtual 50, 3) := by decide +kernel
theorem dX1_choose_13 : decode cX1_choose 13 = .ok (.iastore, 1) := by decide +kernel
theorem dX1_choose_14 : decode cX1_choose 14 = .ok (.iconst 1, 1) := by decide +kernel
theorem dX1_choose_15 : decode cX1_choose 15 = .ok (.istore_n 3, 1) := by decide +kernel
theorem dX1_choose_16 : decode cX1_choose 16 = .ok (.iload_n 3, 1) := by decide +kernel
theorem dX1_choose_17 : decode cX1_choose 17 = .ok (.iload_n 2, 1) := by decide +kernel
theorem dX1_choose_18 : decode cX1_choose 18 = .ok (.if_icmp .ge 29, 3) := by decide +kernel
theorem dX1_choose_21 : decode cX1_choose 21 = .ok (.aload_n 0, 1) := by decide +kernel
theorem dX1_choose_22 : decode cX1_choose 22 = .ok (.getfield 15, 3) := by decide +kernel
theorem dX1_choose_25 : decode cX1_choose 25 = .ok (.iload_n 3, 1) := by decide +kernel
theorem dX1_choose_26 : decode cX1_choose 26 = .ok (.aload_n 0, 1) := by decide +kernel
theorem dX1_choose_27 : decode cX1_choose 27 = .ok (.aload_n 1, 1) := by decide +kernel
theorem dX1_choose_28 : decode cX1_choose 28 = .ok (.iload_n 3, 1) := by decide +kernel
theorem dX1_choose_29 : decode cX1_choose 29 = .ok (.aload_n 0, 1) := by decide +kernel
theorem dX1_choose_30 : decode cX1_choose 30 = .ok (.getfield 15, 3) := by decide +kernel
theorem dX1_choose_33 : decode cX1_choose 33 = .ok (.iload_n 3, 1) := by decide +kernel
theorem dX1_choose_34 : decode cX1_choose 34 = .ok (.iconst 1, 1) := by decide +kernel
theorem dX1_choose_35 : decode cX1_choose 35 = .ok (.isub, 1) := by decide +kernel
theorem dX1_choose_36 : decode cX1_choose 36 = .ok (.iaload, 1) := by decide +kernel
theorem dX1_choose_37 : decode cX1_choose 37 = .ok (.invokevirtual 54, 3) := by decide +kernel
theorem dX1_choose_40 : decode cX1_choose 40 = .ok (.iastore, 1) := by decide +kernel
theorem dX1_choose_41 : decode cX1_choose 41 = .ok (.iinc 3 1, 3) := by decide +kernel
theorem dX1_choose_44 : decode cX1_choose 44 = .ok (.goto (-28), 3) := by decide +kernel
theorem dX1_choose_47 : decode cX1_choose 47 = .ok (.return_, 1) := by decide +kernel
theorem dX1_firstLeast_0 : decode cX1_firstLeast 0 = .ok (.iconst 0, 1) := by decide +kernel
theorem dX1_firstLeast_1 : decode cX1_firstLeast 1 = .ok (.istore_n 2, 1) := by decide +kernel
theorem dX1_firstLeast_2 : decode cX1_firstLeast 2 = .ok (.iconst 1, 1) := by decide +kernel
theorem dX1_firstLeast_3 : decode cX1_firstLeast 3 = .ok (.istore_n 3, 1) := by decide +kernel
theorem dX1_firstLeast_4 : decode cX1_firstLeast 4 = .ok (.iload_n 3, 1) := by decide +kernel
theorem dX1_firstLeast_5 : decode cX1_firstLeast 5 = .ok (.iload_n 1, 1) := by decide +kernel
theorem dX1_firstLeast_6 : decode cX1_firstLeast 6 = .ok (.if_icmp .ge 26, 3) := by decide +kernel
theorem dX1_firstLeast_9 : decode cX1_firstLeast 9 = .ok (.aload_n 0, 1) := by decide +kernel
theorem dX1_firstLeast_10 : decode cX1_firstLeast 10 = .ok (.getfield 9, 3) := by decide +kernel
theorem dX1_firstLeast_13 : decode cX1_firstLeast 13 = .ok (.iload_n 3, 1) := by decide +kernel
theorem dX1_firstLeast_14 : decode cX1_firstLeast 14 = .ok (.iaload, 1) := by decide +kernel
theorem dX1_firstLeast_15 : decode cX1_firstLeast 15 = .ok (.aload_n 0, 1) := by decide +kernel
theorem dX1_firstLeast_16 : decode cX1_firstLeast 16 = .ok (.getfield 9, 3) := by decide +kernel
theorem dX1_firstLeast_19 : decode cX1_firstLeast 19 = .ok (.iload_n 2, 1) := by decide +kernel
theorem dX1_firstLeast_20 : decode cX1_firstLeast 20 = .ok (.iaload, 1) := by decide +kernel
theorem dX1_firstLeast_21 : decode cX1_firstLeast 21 = .ok (.if_icmp .ge 5, 3) := by decide +kernel
theorem dX1_firstLeast_24 : decode cX1_firstLeast 24 = .ok (.iload_n 3, 1) := by decide +kernel
theorem dX1_firstLeast_25 : decode cX1_firstLeast 25 = .ok (.istore_n 2, 1) := by decide +kernel
theorem dX1_firstLeast_26 : decode cX1_firstLeast 26 = .ok (.iinc 3 1, 3) := by decide +kernel
theorem dX1_firstLeast_29 : decode cX1_firstLeast 29 = .ok (.goto (-25), 3) := by decide +kernel
theorem dX1_firstLeast_32 : decode cX1_firstLeast 32 = .ok (.iload_n 2, 1) := by decide +kernel
theorem dX1_firstLeast_33 : decode cX1_firstLeast 33 = .ok (.ireturn, 1) := by decide +kernel
theorem dX1_firstBehind_0 : decode cX1_firstBehind 0 = .ok (.aload_n 1, 1) := by decide +kernel
theorem dX1_firstBehind_1 : decode cX1_firstBehind 1 = .ok (.iload_n 2, 1) := by decide +kernel
theorem dX1_firstBehind_2 : decode cX1_firstBehind 2 = .ok (.iconst 1, 1) := by decide +kernel
theorem dX1_firstBehind_3 : decode cX1_firstBehind 3 = .ok (.isub, 1) := by decide +kernel
theorem dX1_firstBehind_4 : decode cX1_firstBehind 4 = .ok (.invokevirtual 46, 3) := by decide +kernel
theorem dX1_firstBehind_7 : decode cX1_firstBehind 7 = .ok (.ifCond .eq 5, 3) := by decide +kernel
theorem dX1_firstBehind_10 : decode cX1_firstBehind 10 = .ok (.iload_n 3, 1) := by decide +kernel
theorem dX1_firstBehind_11 : decode cX1_firstBehind 11 = .ok (.ireturn, 1) := by decide +kernel
theorem dX1_firstBehind_12 : decode cX1_firstBehind 12 = .ok (.aload_n 0, 1) := by decide +kernel
theorem dX1_firstBehind_13 : decode cX1_firstBehind 13 = .ok (.getfield 9, 3) := by decide +kernel
theorem dX1_firstBehind_16 : decode cX1_firstBehind 16 = .ok (.iload_n 2, 1) := by decide +kernel
theorem dX1_firstBehind_17 : decode cX1_firstBehind 17 = .ok (.iconst 1, 1) := by decide +kernel
theorem dX1_firstBehind_18 : decode cX1_firstBehind 18 = .ok (.isub, 1) := by decide +kernel
theorem dX1_firstBehind_19 : decode cX1_firstBehind 19 = .ok (.bipush 10, 2) := by decide +kernel
theorem dX1_firstBehind_21 : decode cX1_firstBehind 21 = .ok (.imul, 1) := by decide +kernel
theorem dX1_firstBehind_22 : decode cX1_firstBehind 22 = .ok (.iload_n 3, 1) := by decide +kernel
theorem dX1_firstBehind_23 : decode cX1_firstBehind 23 = .ok (.iadd, 1) := by decide +kernel
theorem dX1_firstBehind_24 : decode cX1_firstBehind 24 = .ok (.iaload, 1) := by decide +kernel
theorem dX1_firstBehind_25 : decode cX1_firstBehind 25 = .ok (.istore 4, 2) := by decide +kernel
theorem dX1_firstBehind_27 : decode cX1_firstBehind 27 = .ok (.iconst 0, 1) := by decide +kernel
theorem dX1_firstBehind_28 : decode cX1_firstBehind 28 = .ok (.istore 5, 2) := by decide +kernel
theorem dX1_firstBehind_30 : decode cX1_firstBehind 30 = .ok (.iload 5, 2) := by decide +kernel
theorem dX1_firstBehind_32 : decode cX1_firstBehind 32 = .ok (.aload_n 1, 1) := by decide +kernel
theorem dX1_firstBehind_33 : decode cX1_firstBehind 33 = .ok (.getfield 26, 3) := by decide +kernel
theorem dX1_firstBehind_36 : decode cX1_firstBehind 36 = .ok (.if_icmp .ge 45, 3) := by decide +kernel
theorem dX1_firstBehind_39 : decode cX1_firstBehind 39 = .ok (.iload 5, 2) := by decide +kernel
theorem dX1_firstBehind_41 : decode cX1_firstBehind 41 = .ok (.iload_n 3, 1) := by decide +kernel
theorem dX1_firstBehind_42 : decode cX1_firstBehind 42 = .ok (.if_icmp .ne 7, 3) := by decide +kernel
theorem dX1_firstBehind_45 : decode cX1_firstBehind 45 = .ok (.iconst 0, 1) := by decide +kernel
theorem dX1_firstBehind_46 : decode cX1_firstBehind 46 = .ok (.goto 4, 3) := by decide +kernel
theorem dX1_firstBehind_49 : decode cX1_firstBehind 49 = .ok (.iconst 1, 1) := by decide +kernel
theorem dX1_firstBehind_50 : decode cX1_firstBehind 50 = .ok (.istore 6, 2) := by decide +kernel
theorem dX1_firstBehind_52 : decode cX1_firstBehind 52 = .ok (.aload_n 0, 1) := by decide +kernel
theorem dX1_firstBehind_53 : decode cX1_firstBehind 53 = .ok (.getfield 9, 3) := by decide +kernel
theorem dX1_firstBehind_56 : decode cX1_firstBehind 56 = .ok (.iload_n 2, 1) := by decide +kernel
theorem dX1_firstBehind_57 : decode cX1_firstBehind 57 = .ok (.bipush 10, 2) := by decide +kernel
theorem dX1_firstBehind_59 : decode cX1_firstBehind 59 = .ok (.imul, 1) := by decide +kernel
theorem dX1_firstBehind_60 : decode cX1_firstBehind 60 = .ok (.iload 5, 2) := by decide +kernel
theorem dX1_firstBehind_62 : decode cX1_firstBehind 62 = .ok (.iadd, 1) := by decide +kernel
theorem dX1_firstBehind_63 : decode cX1_firstBehind 63 = .ok (.iaload, 1) := by decide +kernel
theorem dX1_firstBehind_64 : decode cX1_firstBehind 64 = .ok (.iload 6, 2) := by decide +kernel
theorem dX1_firstBehind_66 : decode cX1_firstBehind 66 = .ok (.iadd, 1) := by decide +kernel
theorem dX1_firstBehind_67 : decode cX1_firstBehind 67 = .ok (.iload 4, 2) := by decide +kernel
theorem dX1_firstBehind_69 : decode cX1_firstBehind 69 = .ok (.if_icmp .ne 6, 3) := by decide +kernel
theorem dX1_firstBehind_72 : decode cX1_firstBehind 72 = .ok (.iload 5, 2) := by decide +kernel
theorem dX1_firstBehind_74 : decode cX1_firstBehind 74 = .ok (.ireturn, 1) := by decide +kernel
theorem dX1_firstBehind_75 : decode cX1_firstBehind 75 = .ok (.iinc 5 1, 3) := by decide +kernel
theorem dX1_firstBehind_78 : decode cX1_firstBehind 78 = .ok (.goto (-48), 3) := by decide +kernel
theorem dX1_firstBehind_81 : decode cX1_firstBehind 81 = .ok (.iload_n 3, 1) := by decide +kernel
theorem dX1_firstBehind_82 : decode cX1_firstBehind 82 = .ok (.ireturn, 1) := by decide +kernel
theorem dX2_init_0 : decode cX2_init 0 = .ok (.aload_n 0, 1) := by decide +kernel
theorem dX2_init_1 : decode cX2_init 1 = .ok (.invokespecial 3, 3) := by decide +kernel
theorem dX2_init_4 : decode cX2_init 4 = .ok (.aload_n 0, 1) := by decide +kernel
theorem dX2_init_5 : decode cX2_init 5 = .ok (.bipush 20, 2) := by decide +kernel
theorem dX2_init_7 : decode cX2_init 7 = .ok (.putfield 9, 3) := by decide +kernel
theorem dX2_init_10 : decode cX2_init 10 = .ok (.aload_n 0, 1) := by decide +kernel
theorem dX2_init_11 : decode cX2_init 11 = .ok (.bipush 8, 2) := by decide +kernel
theorem dX2_init_13 : decode cX2_init 13 = .ok (.newarray .int, 2) := by decide +kernel
theorem dX2_init_15 : decode cX2_init 15 = .ok (.putfield 15, 3) := by decide +kernel
theorem dX2_init_18 : decode cX2_init 18 = .ok (.aload_n 0, 1) := by decide +kernel
theorem dX2_init_19 : decode cX2_init 19 = .ok (.invokevirtual 19, 3) := by decide +kernel
theorem dX2_init_22 : decode cX2_init 22 = .ok (.return_, 1) := by decide +kernel
theorem dX2_startPeople_0 : decode cX2_startPeople 0 = .ok (.iconst 0, 1) := by decide +kernel
theorem dX2_startPeople_1 : decode cX2_startPeople 1 = .ok (.istore_n 1, 1) := by decide +kernel
theorem dX2_startPeople_2 : decode cX2_startPeople 2 = .ok (.iload_n 1, 1) := by decide +kernel
theorem dX2_startPeople_3 : decode cX2_startPeople 3 = .ok (.bipush 8, 2) := by decide +kernel
theorem dX2_startPeople_5 : decode cX2_startPeople 5 = .ok (.if_icmp .ge 16, 3) := by decide +kernel
theorem dX2_startPeople_8 : decode cX2_startPeople 8 = .ok (.aload_n 0, 1) := by decide +kernel
theorem dX2_startPeople_9 : decode cX2_startPeople 9 = .ok (.getfield 15, 3) := by decide +kernel
theorem dX2_startPeople_12 : decode cX2_startPeople 12 = .ok (.iload_n 1, 1) := by decide +kernel
theorem dX2_startPeople_13 : decode cX2_startPeople 13 = .ok (.iconst 1, 1) := by decide +kernel
theorem dX2_startPeople_14 : decode cX2_startPeople 14 = .ok (.iastore, 1) := by decide +kernel
theorem dX2_startPeople_15 : decode cX2_startPeople 15 = .ok (.iinc 1 1, 3) := by decide +kernel
theorem dX2_startPeople_18 : decode cX2_startPeople 18 = .ok (.goto (-16), 3) := by decide +kernel
theorem dX2_startPeople_21 : decode cX2_startPeople 21 = .ok (.return_, 1) := by decide +kernel
theorem dX2_copyFrom_0 : decode cX2_copyFrom 0 = .ok (.aload_n 0, 1) := by decide +kernel
theorem dX2_copyFrom_1 : decode cX2_copyFrom 1 = .ok (.aload_n 1, 1) := by decide +kernel
theorem dX2_copyFrom_2 : decode cX2_copyFrom 2 = .ok (.getfield 9, 3) := by decide +kernel
theorem dX2_copyFrom_5 : decode cX2_copyFrom 5 = .ok (.putfield 9, 3) := by decide +kernel
theorem dX2_copyFrom_8 : decode cX2_copyFrom 8 = .ok (.aload_n 1, 1) := by decide +kernel
theorem dX2_copyFrom_9 : decode cX2_copyFrom 9 = .ok (.getfield 15, 3) := by decide +kernel
theorem dX2_copyFrom_12 : decode cX2_copyFrom 12 = .ok (.iconst 0, 1) := by decide +kernel
theorem dX2_copyFrom_13 : decode cX2_copyFrom 13 = .ok (.aload_n 0, 1) := by decide +kernel
theorem dX2_copyFrom_14 : decode cX2_copyFrom 14 = .ok (.getfield 15, 3) := by decide +kernel
theorem dX2_copyFrom_17 : decode cX2_copyFrom 17 = .ok (.iconst 0, 1) := by decide +kernel
theorem dX2_copyFrom_18 : decode cX2_copyFrom 18 = .ok (.bipush 8, 2) := by decide +kernel
theorem dX2_copyFrom_20 : decode cX2_copyFrom 20 = .ok (.invokestatic 22, 3) := by decide +kernel
theorem dX2_copyFrom_23 : decode cX2_copyFrom 23 = .ok (.return_, 1) := by decide +kernel
theorem dX2_changeTired_0 : decode cX2_changeTired 0 = .ok (.aload_n 0, 1) := by decide +kernel
theorem dX2_changeTired_1 : decode cX2_changeTired 1 = .ok (.getfield 9, 3) := by decide +kernel
theorem dX2_changeTired_4 : decode cX2_changeTired 4 = .ok (.istore_n 2, 1) := by decide +kernel
theorem dX2_changeTired_5 : decode cX2_changeTired 5 = .ok (.aload_n 0, 1) := by decide +kernel
theorem dX2_changeTired_6 : decode cX2_changeTired 6 = .ok (.iload_n 1, 1) := by decide +kernel
theorem dX2_changeTired_7 : decode cX2_changeTired 7 = .ok (.putfield 9, 3) := by decide +kernel
theorem dX2_changeTired_10 : decode cX2_changeTired 10 = .ok (.iload_n 2, 1) := by decide +kernel
theorem dX2_changeTired_11 : decode cX2_changeTired 11 = .ok (.ireturn, 1) := by decide +kernel
theorem dX2_changeQuarters_0 : decode cX2_changeQuarters 0 = .ok (.aload_n 0, 1) := by decide +kernel
theorem dX2_changeQuarters_1 : decode cX2_changeQuarters 1 = .ok (.getfield 15, 3) := by decide +kernel
theorem dX2_changeQuarters_4 : decode cX2_changeQuarters 4 = .ok (.iload_n 1, 1) := by decide +kernel
theorem dX2_changeQuarters_5 : decode cX2_changeQuarters 5 = .ok (.iaload, 1) := by decide +kernel
theorem dX2_changeQuarters_6 : decode cX2_changeQuarters 6 = .ok (.istore_n 3, 1) := by decide +kernel
theorem dX2_changeQuarters_7 : decode cX2_changeQuarters 7 = .ok (.aload_n 0, 1) := by decide +kernel
theorem dX2_changeQuarters_8 : decode cX2_changeQuarters 8 = .ok (.getfield 15, 3) := by decide +kernel
theorem dX2_changeQuarters_11 : decode cX2_changeQuarters 11 = .ok (.iload_n 1, 1) := by decide +kernel
theorem dX2_changeQuarters_12 : decode cX2_changeQuarters 12 = .ok (.iload_n 2, 1) := by decide +kernel
theorem dX2_changeQuarters_13 : decode cX2_changeQuarters 13 = .ok (.iastore, 1) := by decide +kernel
theorem dX2_changeQuarters_14 : decode cX2_changeQuarters 14 = .ok (.iload_n 3, 1) := by decide +kernel
theorem dX2_changeQuarters_15 : decode cX2_changeQuarters 15 = .ok (.ireturn, 1) := by decide +kernel
theorem dX2_quartersOf_0 : decode cX2_quartersOf 0 = .ok (.aload_n 0, 1) := by decide +kernel
theorem dX2_quartersOf_1 : decode cX2_quartersOf 1 = .ok (.getfield 15, 3) := by decide +kernel
theorem dX2_quartersOf_4 : decode cX2_quartersOf 4 = .ok (.iload_n 1, 1) := by decide +kernel
theorem dX2_quartersOf_5 : decode cX2_quartersOf 5 = .ok (.iaload, 1) := by decide +kernel
theorem dX2_quartersOf_6 : decode cX2_quartersOf 6 = .ok (.ireturn, 1) := by decide +kernel
theorem dX2_quartersIn_0 : decode cX2_quartersIn 0 = .ok (.iload_n 1, 1) := by decide +kernel
theorem dX2_quartersIn_1 : decode cX2_quartersIn 1 = .ok (.aload_n 0, 1) := by decide +kernel
theorem dX2_quartersIn_2 : decode cX2_quartersIn 2 = .ok (.getfield 9, 3) := by decide +kernel
theorem dX2_quartersIn_5 : decode cX2_quartersIn 5 = .ok (.if_icmp .ge 12, 3) := by decide +kernel
theorem dX2_quartersIn_8 : decode cX2_quartersIn 8 = .ok (.aload_n 0, 1) := by decide +kernel
theorem dX2_quartersIn_9 : decode cX2_quartersIn 9 = .ok (.getfield 15, 3) := by decide +kernel
theorem dX2_quartersIn_12 : decode cX2_quartersIn 12 = .ok (.iload_n 2, 1) := by decide +kernel
theorem dX2_quartersIn_13 : decode cX2_quartersIn 13 = .ok (.iaload, 1) := by decide +kernel
theorem dX2_quartersIn_14 : decode cX2_quartersIn 14 = .ok (.goto 15, 3) := by decide +kernel
theorem dX2_quartersIn_17 : decode cX2_quartersIn 17 = .ok (.iconst 4, 1) := by decide +kernel
theorem dX2_quartersIn_18 : decode cX2_quartersIn 18 = .ok (.aload_n 0, 1) := by decide +kernel
theorem dX2_quartersIn_19 : decode cX2_quartersIn 19 = .ok (.getfield 15, 3) := by decide +kernel
theorem dX2_quartersIn_22 : decode cX2_quartersIn 22 = .ok (.iload_n 2, 1) := by decide +kernel
theorem dX2_quartersIn_23 : decode cX2_quartersIn 23 = .ok (.iaload, 1) := by decide +kernel
theorem dX2_quartersIn_24 : decode cX2_quartersIn 24 = .ok (.iconst 1, 1) := by decide +kernel
theorem dX2_quartersIn_25 : decode cX2_quartersIn 25 = .ok (.iadd, 1) := by decide +kernel
theorem dX2_quartersIn_26 : decode cX2_quartersIn 26 = .ok (.invokestatic 28, 3) := by decide +kernel
theorem dX2_quartersIn_29 : decode cX2_quartersIn 29 = .ok (.ireturn, 1) := by decide +kernel
theorem dX2_waysOf_0 : decode cX2_waysOf 0 = .ok (.lconst 1, 1) := by decide +kernel
theorem dX2_waysOf_1 : decode cX2_waysOf 1 = .ok (.iconst 2, 1) := by decide +kernel
theorem dX2_waysOf_2 : decode cX2_waysOf 2 = .ok (.iload_n 0, 1) := by decide +kernel
theorem dX2_waysOf_3 : decode cX2_waysOf 3 = .ok (.imul, 1) := by decide +kernel
theorem dX2_waysOf_4 : decode cX2_waysOf 4 = .ok (.iload_n 1, 1) := by decide +kernel
theorem dX2_waysOf_5 : decode cX2_waysOf 5 = .ok (.imul, 1) := by decide +kernel
theorem dX2_waysOf_6 : decode cX2_waysOf 6 = .ok (.lshl, 1) := by decide +kernel
theorem dX2_waysOf_7 : decode cX2_waysOf 7 = .ok (.lreturn, 1) := by decide +kernel
theorem dX2_waysAllOpen_0 : decode cX2_waysAllOpen 0 = .ok (.lconst 1, 1) := by decide +kernel
theorem dX2_waysAllOpen_1 : decode cX2_waysAllOpen 1 = .ok (.lstore_n 3, 1) := by decide +kernel
theorem dX2_waysAllOpen_2 : decode cX2_waysAllOpen 2 = .ok (.iconst 0, 1) := by decide +kernel
theorem dX2_waysAllOpen_3 : decode cX2_waysAllOpen 3 = .ok (.istore 5, 2) := by decide +kernel
theorem dX2_waysAllOpen_5 : decode cX2_waysAllOpen 5 = .ok (.iload 5, 2) := by decide +kernel
theorem dX2_waysAllOpen_7 : decode cX2_waysAllOpen 7 = .ok (.iload_n 2, 1) := by decide +kernel
theorem dX2_waysAllOpen_8 : decode cX2_waysAllOpen 8 = .ok (.if_icmp .ge 22, 3) := by decide +kernel
theorem dX2_waysAllOpen_11 : decode cX2_waysAllOpen 11 = .ok (.lload_n 3, 1) := by decide +kernel
theorem dX2_waysAllOpen_12 : decode cX2_waysAllOpen 12 = .ok (.iconst 4, 1) := by decide +kernel
theorem dX2_waysAllOpen_13 : decode cX2_waysAllOpen 13 = .ok (.aload_n 0, 1) := by decide +kernel
theorem dX2_waysAllOpen_14 : decode cX2_waysAllOpen 14 = .ok (.iload_n 1, 1) := by decide +kernel
theorem dX2_waysAllOpen_15 : decode cX2_waysAllOpen 15 = .ok (.iload 5, 2) := by decide +kernel
theorem dX2_waysAllOpen_17 : decode cX2_waysAllOpen 17 = .ok (.invokevirtual 34, 3) := by decide +kernel
theorem dX2_waysAllOpen_20 : decode cX2_waysAllOpen 20 = .ok (.isub, 1) := by decide +kernel
theorem dX2_waysAllOpen_21 : decode cX2_waysAllOpen 21 = .ok (.i2l, 1) := by decide +kernel
theorem dX2_waysAllOpen_22 : decode cX2_waysAllOpen 22 = .ok (.lmul, 1) := by decide +kernel
theorem dX2_waysAllOpen_23 : decode cX2_waysAllOpen 23 = .ok (.lstore_n 3, 1) := by decide +kernel
theorem dX2_waysAllOpen_24 : decode cX2_waysAllOpen 24 = .ok (.iinc 5 1, 3) := by decide +kernel
theorem dX2_waysAllOpen_27 : decode cX2_waysAllOpen 27 = .ok (.goto (-22), 3) := by decide +kernel
theorem dX2_waysAllOpen_30 : decode cX2_waysAllOpen 30 = .ok (.lload_n 3, 1) := by decide +kernel
theorem dX2_waysAllOpen_31 : decode cX2_waysAllOpen 31 = .ok (.lreturn, 1) := by decide +kernel
theorem dX2_waysOneOf_0 : decode cX2_waysOneOf 0 = .ok (.lconst 1, 1) := by decide +kernel
theorem dX2_waysOneOf_1 : decode cX2_waysOneOf 1 = .ok (.lstore_n 3, 1) := by decide +kernel
theorem dX2_waysOneOf_2 : decode cX2_waysOneOf 2 = .ok (.iconst 0, 1) := by decide +kernel
theorem dX2_waysOneOf_3 : decode cX2_waysOneOf 3 = .ok (.istore 5, 2) := by decide +kernel
theorem dX2_waysOneOf_5 : decode cX2_waysOneOf 5 = .ok (.iload 5, 2) := by decide +kernel
theorem dX2_waysOneOf_7 : decode cX2_waysOneOf 7 = .ok (.iload_n 1, 1) := by decide +kernel
theorem dX2_waysOneOf_8 : decode cX2_waysOneOf 8 = .ok (.if_icmp .ge 25, 3) := by decide +kernel
theorem dX2_waysOneOf_11 : decode cX2_waysOneOf 11 = .ok (.lload_n 3, 1) := by decide +kernel
theorem dX2_waysOneOf_12 : decode cX2_waysOneOf 12 = .ok (.iconst 1, 1) := by decide +kernel
theorem dX2_waysOneOf_13 : decode cX2_waysOneOf 13 = .ok (.iload_n 2, 1) := by decide +kernel
theorem dX2_waysOneOf_14 : decode cX2_waysOneOf 14 = .ok (.invokestatic 37, 3) := by decide +kernel
theorem dX2_waysOneOf_17 : decode cX2_waysOneOf 17 = .ok (.aload_n 0, 1) := by decide +kernel
theorem dX2_waysOneOf_18 : decode cX2_waysOneOf 18 = .ok (.iload 5, 2) := by decide +kernel
theorem dX2_waysOneOf_20 : decode cX2_waysOneOf 20 = .ok (.iload_n 2, 1) := by decide +kernel
theorem dX2_waysOneOf_21 : decode cX2_waysOneOf 21 = .ok (.invokevirtual 41, 3) := by decide +kernel
theorem dX2_waysOneOf_24 : decode cX2_waysOneOf 24 = .ok (.lsub, 1) := by decide +kernel
theorem dX2_waysOneOf_25 : decode cX2_waysOneOf 25 = .ok (.lmul, 1) := by decide +kernel
theorem dX2_waysOneOf_26 : decode cX2_waysOneOf 26 = .ok (.lstore_n 3, 1) := by decide +kernel
theorem dX2_waysOneOf_27 : decode cX2_waysOneOf 27 = .ok (.iinc 5 1, 3) := by decide +kernel
theorem dX2_waysOneOf_30 : decode cX2_waysOneOf 30 = .ok (.goto (-25), 3) := by decide +kernel
theorem dX2_waysOneOf_33 : decode cX2_waysOneOf 33 = .ok (.iload_n 1, 1) := by decide +kernel
theorem dX2_waysOneOf_34 : decode cX2_waysOneOf 34 = .ok (.iload_n 2, 1) := by decide +kernel
theorem dX2_waysOneOf_35 : decode cX2_waysOneOf 35 = .ok (.invokestatic 37, 3) := by decide +kernel
theorem dX2_waysOneOf_38 : decode cX2_waysOneOf 38 = .ok (.lload_n 3, 1) := by decide +kernel
theorem dX2_waysOneOf_39 : decode cX2_waysOneOf 39 = .ok (.lsub, 1) := by decide +kernel
theorem dX2_waysOneOf_40 : decode cX2_waysOneOf 40 = .ok (.lreturn, 1) := by decide +kernel
theorem dX2_drawShots_0 : decode cX2_drawShots 0 = .ok (.iconst 0, 1) := by decide +kernel
theorem dX2_drawShots_1 : decode cX2_drawShots 1 = .ok (.istore 4, 2) := by decide +kernel
theorem dX2_drawShots_3 : decode cX2_drawShots 3 = .ok (.iload_n 1, 1) := by decide +kernel
theorem dX2_drawShots_4 : decode cX2_drawShots 4 = .ok (.istore 5, 2) := by decide +kernel
theorem dX2_drawShots_6 : decode cX2_drawShots 6 = .ok (.iconst 0, 1) := by decide +kernel
theorem dX2_drawShots_7 : decode cX2_drawShots 7 = .ok (.istore 6, 2) := by decide +kernel
theorem dX2_drawShots_9 : decode cX2_drawShots 9 = .ok (.iload 6, 2) := by decide +kernel
theorem dX2_drawShots_11 : decode cX2_drawShots 11 = .ok (.iload_n 2, 1) := by decide +kernel
theorem dX2_drawShots_12 : decode cX2_drawShots 12 = .ok (.if_icmp .ge 72, 3) := by decide +kernel
theorem dX2_drawShots_15 : decode cX2_drawShots 15 = .ok (.iconst 1, 1) := by decide +kernel
theorem dX2_drawShots_16 : decode cX2_drawShots 16 = .ok (.istore 7, 2) := by decide +kernel
theorem dX2_drawShots_18 : decode cX2_drawShots 18 = .ok (.iconst 0, 1) := by decide +kernel
theorem dX2_drawShots_19 : decode cX2_drawShots 19 = .ok (.istore 8, 2) := by decide +kernel
theorem dX2_drawShots_21 : decode cX2_drawShots 21 = .ok (.iload 8, 2) := by decide +kernel
theorem dX2_drawShots_23 : decode cX2_drawShots 23 = .ok (.iload_n 3, 1) := by decide +kernel
theorem dX2_drawShots_24 : decode cX2_drawShots 24 = .ok (.if_icmp .ge 40, 3) := by decide +kernel
theorem dX2_drawShots_27 : decode cX2_drawShots 27 = .ok (.bipush 75, 2) := by decide +kernel
theorem dX2_drawShots_29 : decode cX2_drawShots 29 = .ok (.iload 5, 2) := by decide +kernel
theorem dX2_drawShots_31 : decode cX2_drawShots 31 = .ok (.imul, 1) := by decide +kernel
theorem dX2_drawShots_32 : decode cX2_drawShots 32 = .ok (.bipush 74, 2) := by decide +kernel
theorem dX2_drawShots_34 : decode cX2_drawShots 34 = .ok (.iadd, 1) := by decide +kernel
theorem dX2_drawShots_35 : decode cX2_drawShots 35 = .ok (.ldc 44, 2) := by decide +kernel
theorem dX2_drawShots_37 : decode cX2_drawShots 37 = .ok (.irem, 1) := by decide +kernel
theorem dX2_drawShots_38 : decode cX2_drawShots 38 = .ok (.istore 5, 2) := by decide +kernel
