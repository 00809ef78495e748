theorem dX7_areNeighbours_6 : decode cX7_areNeighbours 6 = .ok (.iload_n 2, 1) := by decide +kernel
theorem dX7_areNeighbours_7 : decode cX7_areNeighbours 7 = .ok (.invokevirtual 65, 3) := by decide +kernel
theorem dX7_areNeighbours_10 : decode cX7_areNeighbours 10 = .ok (.isub, 1) := by decide +kernel
theorem dX7_areNeighbours_11 : decode cX7_areNeighbours 11 = .ok (.invokestatic 68, 3) := by decide +kernel
theorem dX7_areNeighbours_14 : decode cX7_areNeighbours 14 = .ok (.istore_n 3, 1) := by decide +kernel
theorem dX7_areNeighbours_15 : decode cX7_areNeighbours 15 = .ok (.aload_n 0, 1) := by decide +kernel
theorem dX7_areNeighbours_16 : decode cX7_areNeighbours 16 = .ok (.iload_n 1, 1) := by decide +kernel
theorem dX7_areNeighbours_17 : decode cX7_areNeighbours 17 = .ok (.invokevirtual 61, 3) := by decide +kernel
theorem dX7_areNeighbours_20 : decode cX7_areNeighbours 20 = .ok (.aload_n 0, 1) := by decide +kernel
theorem dX7_areNeighbours_21 : decode cX7_areNeighbours 21 = .ok (.iload_n 2, 1) := by decide +kernel
theorem dX7_areNeighbours_22 : decode cX7_areNeighbours 22 = .ok (.invokevirtual 61, 3) := by decide +kernel
theorem dX7_areNeighbours_25 : decode cX7_areNeighbours 25 = .ok (.isub, 1) := by decide +kernel
theorem dX7_areNeighbours_26 : decode cX7_areNeighbours 26 = .ok (.invokestatic 68, 3) := by decide +kernel
theorem dX7_areNeighbours_29 : decode cX7_areNeighbours 29 = .ok (.istore 4, 2) := by decide +kernel
theorem dX7_areNeighbours_31 : decode cX7_areNeighbours 31 = .ok (.iload_n 3, 1) := by decide +kernel
theorem dX7_areNeighbours_32 : decode cX7_areNeighbours 32 = .ok (.iload 4, 2) := by decide +kernel
theorem dX7_areNeighbours_34 : decode cX7_areNeighbours 34 = .ok (.iadd, 1) := by decide +kernel
theorem dX7_areNeighbours_35 : decode cX7_areNeighbours 35 = .ok (.iconst 1, 1) := by decide +kernel
theorem dX7_areNeighbours_36 : decode cX7_areNeighbours 36 = .ok (.if_icmp .ne 7, 3) := by decide +kernel
theorem dX7_areNeighbours_39 : decode cX7_areNeighbours 39 = .ok (.iconst 1, 1) := by decide +kernel
theorem dX7_areNeighbours_40 : decode cX7_areNeighbours 40 = .ok (.goto 4, 3) := by decide +kernel
theorem dX7_areNeighbours_43 : decode cX7_areNeighbours 43 = .ok (.iconst 0, 1) := by decide +kernel
theorem dX7_areNeighbours_44 : decode cX7_areNeighbours 44 = .ok (.ireturn, 1) := by decide +kernel
theorem dX7_rowOf_0 : decode cX7_rowOf 0 = .ok (.aload_n 0, 1) := by decide +kernel
theorem dX7_rowOf_1 : decode cX7_rowOf 1 = .ok (.getfield 15, 3) := by decide +kernel
theorem dX7_rowOf_4 : decode cX7_rowOf 4 = .ok (.iconst 1, 1) := by decide +kernel
theorem dX7_rowOf_5 : decode cX7_rowOf 5 = .ok (.if_icmp .ge 7, 3) := by decide +kernel
theorem dX7_rowOf_8 : decode cX7_rowOf 8 = .ok (.iconst 0, 1) := by decide +kernel
theorem dX7_rowOf_9 : decode cX7_rowOf 9 = .ok (.goto 9, 3) := by decide +kernel
theorem dX7_rowOf_12 : decode cX7_rowOf 12 = .ok (.iload_n 1, 1) := by decide +kernel
theorem dX7_rowOf_13 : decode cX7_rowOf 13 = .ok (.aload_n 0, 1) := by decide +kernel
theorem dX7_rowOf_14 : decode cX7_rowOf 14 = .ok (.getfield 15, 3) := by decide +kernel
theorem dX7_rowOf_17 : decode cX7_rowOf 17 = .ok (.idiv, 1) := by decide +kernel
theorem dX7_rowOf_18 : decode cX7_rowOf 18 = .ok (.ireturn, 1) := by decide +kernel
theorem dX7_columnOf_0 : decode cX7_columnOf 0 = .ok (.aload_n 0, 1) := by decide +kernel
theorem dX7_columnOf_1 : decode cX7_columnOf 1 = .ok (.getfield 15, 3) := by decide +kernel
theorem dX7_columnOf_4 : decode cX7_columnOf 4 = .ok (.iconst 1, 1) := by decide +kernel
theorem dX7_columnOf_5 : decode cX7_columnOf 5 = .ok (.if_icmp .ge 7, 3) := by decide +kernel
theorem dX7_columnOf_8 : decode cX7_columnOf 8 = .ok (.iconst 0, 1) := by decide +kernel
theorem dX7_columnOf_9 : decode cX7_columnOf 9 = .ok (.goto 9, 3) := by decide +kernel
theorem dX7_columnOf_12 : decode cX7_columnOf 12 = .ok (.iload_n 1, 1) := by decide +kernel
theorem dX7_columnOf_13 : decode cX7_columnOf 13 = .ok (.aload_n 0, 1) := by decide +kernel
theorem dX7_columnOf_14 : decode cX7_columnOf 14 = .ok (.getfield 15, 3) := by decide +kernel
theorem dX7_columnOf_17 : decode cX7_columnOf 17 = .ok (.irem, 1) := by decide +kernel
theorem dX7_columnOf_18 : decode cX7_columnOf 18 = .ok (.ireturn, 1) := by decide +kernel
theorem dX8_init_0 : decode cX8_init 0 = .ok (.aload_n 0, 1) := by decide +kernel
theorem dX8_init_1 : decode cX8_init 1 = .ok (.invokespecial 1, 3) := by decide +kernel
theorem dX8_init_4 : decode cX8_init 4 = .ok (.aload_n 0, 1) := by decide +kernel
theorem dX8_init_5 : decode cX8_init 5 = .ok (.new 7, 3) := by decide +kernel
theorem dX8_init_8 : decode cX8_init 8 = .ok (.dup, 1) := by decide +kernel
theorem dX8_init_9 : decode cX8_init 9 = .ok (.invokespecial 9, 3) := by decide +kernel
theorem dX8_init_12 : decode cX8_init 12 = .ok (.putfield 10, 3) := by decide +kernel
theorem dX8_init_15 : decode cX8_init 15 = .ok (.aload_n 0, 1) := by decide +kernel
theorem dX8_init_16 : decode cX8_init 16 = .ok (.new 16, 3) := by decide +kernel
theorem dX8_init_19 : decode cX8_init 19 = .ok (.dup, 1) := by decide +kernel
theorem dX8_init_20 : decode cX8_init 20 = .ok (.invokespecial 18, 3) := by decide +kernel
theorem dX8_init_23 : decode cX8_init 23 = .ok (.putfield 19, 3) := by decide +kernel
theorem dX8_init_26 : decode cX8_init 26 = .ok (.aload_n 0, 1) := by decide +kernel
theorem dX8_init_27 : decode cX8_init 27 = .ok (.iconst 2, 1) := by decide +kernel
theorem dX8_init_28 : decode cX8_init 28 = .ok (.anewarray 16, 3) := by decide +kernel
theorem dX8_init_31 : decode cX8_init 31 = .ok (.putfield 23, 3) := by decide +kernel
theorem dX8_init_34 : decode cX8_init 34 = .ok (.aload_n 0, 1) := by decide +kernel
theorem dX8_init_35 : decode cX8_init 35 = .ok (.new 27, 3) := by decide +kernel
theorem dX8_init_38 : decode cX8_init 38 = .ok (.dup, 1) := by decide +kernel
theorem dX8_init_39 : decode cX8_init 39 = .ok (.invokespecial 29, 3) := by decide +kernel
theorem dX8_init_42 : decode cX8_init 42 = .ok (.putfield 30, 3) := by decide +kernel
theorem dX8_init_45 : decode cX8_init 45 = .ok (.aload_n 0, 1) := by decide +kernel
theorem dX8_init_46 : decode cX8_init 46 = .ok (.new 34, 3) := by decide +kernel
theorem dX8_init_49 : decode cX8_init 49 = .ok (.dup, 1) := by decide +kernel
theorem dX8_init_50 : decode cX8_init 50 = .ok (.invokespecial 36, 3) := by decide +kernel
theorem dX8_init_53 : decode cX8_init 53 = .ok (.putfield 37, 3) := by decide +kernel
theorem dX8_init_56 : decode cX8_init 56 = .ok (.aload_n 0, 1) := by decide +kernel
theorem dX8_init_57 : decode cX8_init 57 = .ok (.bipush 8, 2) := by decide +kernel
theorem dX8_init_59 : decode cX8_init 59 = .ok (.newarray .int, 2) := by decide +kernel
theorem dX8_init_61 : decode cX8_init 61 = .ok (.putfield 41, 3) := by decide +kernel
theorem dX8_init_64 : decode cX8_init 64 = .ok (.return_, 1) := by decide +kernel
theorem dX8_people_0 : decode cX8_people 0 = .ok (.iload_n 1, 1) := by decide +kernel
theorem dX8_people_1 : decode cX8_people 1 = .ok (.iconst 1, 1) := by decide +kernel
theorem dX8_people_2 : decode cX8_people 2 = .ok (.bipush 8, 2) := by decide +kernel
theorem dX8_people_4 : decode cX8_people 4 = .ok (.invokestatic 45, 3) := by decide +kernel
theorem dX8_people_7 : decode cX8_people 7 = .ok (.ifCond .ne 6, 3) := by decide +kernel
theorem dX8_people_10 : decode cX8_people 10 = .ok (.bipush (-2), 2) := by decide +kernel
theorem dX8_people_12 : decode cX8_people 12 = .ok (.ireturn, 1) := by decide +kernel
theorem dX8_people_13 : decode cX8_people 13 = .ok (.aload_n 0, 1) := by decide +kernel
theorem dX8_people_14 : decode cX8_people 14 = .ok (.getfield 19, 3) := by decide +kernel
theorem dX8_people_17 : decode cX8_people 17 = .ok (.iload_n 1, 1) := by decide +kernel
theorem dX8_people_18 : decode cX8_people 18 = .ok (.invokevirtual 49, 3) := by decide +kernel
theorem dX8_people_21 : decode cX8_people 21 = .ok (.ireturn, 1) := by decide +kernel
theorem dX8_bride_0 : decode cX8_bride 0 = .ok (.iload_n 1, 1) := by decide +kernel
theorem dX8_bride_1 : decode cX8_bride 1 = .ok (.iconst (-1), 1) := by decide +kernel
theorem dX8_bride_2 : decode cX8_bride 2 = .ok (.if_icmp .eq 16, 3) := by decide +kernel
theorem dX8_bride_5 : decode cX8_bride 5 = .ok (.aload_n 0, 1) := by decide +kernel
theorem dX8_bride_6 : decode cX8_bride 6 = .ok (.getfield 19, 3) := by decide +kernel
theorem dX8_bride_9 : decode cX8_bride 9 = .ok (.iload_n 1, 1) := by decide +kernel
theorem dX8_bride_10 : decode cX8_bride 10 = .ok (.invokevirtual 53, 3) := by decide +kernel
theorem dX8_bride_13 : decode cX8_bride 13 = .ok (.ifCond .ne 5, 3) := by decide +kernel
theorem dX8_bride_16 : decode cX8_bride 16 = .ok (.iconst (-1), 1) := by decide +kernel
theorem dX8_bride_17 : decode cX8_bride 17 = .ok (.ireturn, 1) := by decide +kernel
theorem dX8_bride_18 : decode cX8_bride 18 = .ok (.aload_n 0, 1) := by decide +kernel
theorem dX8_bride_19 : decode cX8_bride 19 = .ok (.getfield 19, 3) := by decide +kernel
theorem dX8_bride_22 : decode cX8_bride 22 = .ok (.getfield 57, 3) := by decide +kernel
theorem dX8_bride_25 : decode cX8_bride 25 = .ok (.istore_n 2, 1) := by decide +kernel
theorem dX8_bride_26 : decode cX8_bride 26 = .ok (.aload_n 0, 1) := by decide +kernel
theorem dX8_bride_27 : decode cX8_bride 27 = .ok (.getfield 19, 3) := by decide +kernel
theorem dX8_bride_30 : decode cX8_bride 30 = .ok (.iload_n 1, 1) := by decide +kernel
theorem dX8_bride_31 : decode cX8_bride 31 = .ok (.iconst (-1), 1) := by decide +kernel
theorem dX8_bride_32 : decode cX8_bride 32 = .ok (.if_icmp .ne 8, 3) := by decide +kernel
theorem dX8_bride_35 : decode cX8_bride 35 = .ok (.bipush (-6), 2) := by decide +kernel
theorem dX8_bride_37 : decode cX8_bride 37 = .ok (.goto 4, 3) := by decide +kernel
theorem dX8_bride_40 : decode cX8_bride 40 = .ok (.iload_n 1, 1) := by decide +kernel
theorem dX8_bride_41 : decode cX8_bride 41 = .ok (.putfield 57, 3) := by decide +kernel
theorem dX8_bride_44 : decode cX8_bride 44 = .ok (.iload_n 2, 1) := by decide +kernel
theorem dX8_bride_45 : decode cX8_bride 45 = .ok (.ireturn, 1) := by decide +kernel
theorem dX8_say_0 : decode cX8_say 0 = .ok (.iload_n 1, 1) := by decide +kernel
theorem dX8_say_1 : decode cX8_say 1 = .ok (.bipush 33, 2) := by decide +kernel
theorem dX8_say_3 : decode cX8_say 3 = .ok (.bipush 126, 2) := by decide +kernel
theorem dX8_say_5 : decode cX8_say 5 = .ok (.invokestatic 45, 3) := by decide +kernel
theorem dX8_say_8 : decode cX8_say 8 = .ok (.ifCond .ne 6, 3) := by decide +kernel
theorem dX8_say_11 : decode cX8_say 11 = .ok (.bipush (-2), 2) := by decide +kernel
theorem dX8_say_13 : decode cX8_say 13 = .ok (.ireturn, 1) := by decide +kernel
theorem dX8_say_14 : decode cX8_say 14 = .ok (.aload_n 0, 1) := by decide +kernel
theorem dX8_say_15 : decode cX8_say 15 = .ok (.getfield 10, 3) := by decide +kernel
theorem dX8_say_18 : decode cX8_say 18 = .ok (.invokevirtual 61, 3) := by decide +kernel
theorem dX8_say_21 : decode cX8_say 21 = .ok (.ifCond .eq 6, 3) := by decide +kernel
theorem dX8_say_24 : decode cX8_say 24 = .ok (.bipush (-4), 2) := by decide +kernel
theorem dX8_say_26 : decode cX8_say 26 = .ok (.ireturn, 1) := by decide +kernel
theorem dX8_say_27 : decode cX8_say 27 = .ok (.aload_n 0, 1) := by decide +kernel
theorem dX8_say_28 : decode cX8_say 28 = .ok (.getfield 10, 3) := by decide +kernel
theorem dX8_say_31 : decode cX8_say 31 = .ok (.iload_n 1, 1) := by decide +kernel
theorem dX8_say_32 : decode cX8_say 32 = .ok (.invokevirtual 65, 3) := by decide +kernel
theorem dX8_say_35 : decode cX8_say 35 = .ok (.ireturn, 1) := by decide +kernel
theorem dX8_wipe_0 : decode cX8_wipe 0 = .ok (.aload_n 0, 1) := by decide +kernel
theorem dX8_wipe_1 : decode cX8_wipe 1 = .ok (.getfield 10, 3) := by decide +kernel
theorem dX8_wipe_4 : decode cX8_wipe 4 = .ok (.invokevirtual 68, 3) := by decide +kernel
theorem dX8_wipe_7 : decode cX8_wipe 7 = .ok (.ireturn, 1) := by decide +kernel
theorem dX8_fault_0 : decode cX8_fault 0 = .ok (.iload_n 1, 1) := by decide +kernel
theorem dX8_fault_1 : decode cX8_fault 1 = .ok (.iconst 0, 1) := by decide +kernel
theorem dX8_fault_2 : decode cX8_fault 2 = .ok (.iconst 1, 1) := by decide +kernel
theorem dX8_fault_3 : decode cX8_fault 3 = .ok (.invokestatic 45, 3) := by decide +kernel
theorem dX8_fault_6 : decode cX8_fault 6 = .ok (.ifCond .ne 6, 3) := by decide +kernel
theorem dX8_fault_9 : decode cX8_fault 9 = .ok (.bipush (-2), 2) := by decide +kernel
theorem dX8_fault_11 : decode cX8_fault 11 = .ok (.ireturn, 1) := by decide +kernel
theorem dX8_fault_12 : decode cX8_fault 12 = .ok (.iload_n 1, 1) := by decide +kernel
theorem dX8_fault_13 : decode cX8_fault 13 = .ok (.ifCond .ne 20, 3) := by decide +kernel
theorem dX8_fault_16 : decode cX8_fault 16 = .ok (.aload_n 0, 1) := by decide +kernel
theorem dX8_fault_17 : decode cX8_fault 17 = .ok (.getfield 10, 3) := by decide +kernel
theorem dX8_fault_20 : decode cX8_fault 20 = .ok (.aload_n 0, 1) := by decide +kernel
theorem dX8_fault_21 : decode cX8_fault 21 = .ok (.getfield 19, 3) := by decide +kernel
theorem dX8_fault_24 : decode cX8_fault 24 = .ok (.getfield 72, 3) := by decide +kernel
theorem dX8_fault_27 : decode cX8_fault 27 = .ok (.invokevirtual 75, 3) := by decide +kernel
theorem dX8_fault_30 : decode cX8_fault 30 = .ok (.goto 7, 3) := by decide +kernel
theorem dX8_fault_33 : decode cX8_fault 33 = .ok (.aload_n 0, 1) := by decide +kernel
theorem dX8_fault_34 : decode cX8_fault 34 = .ok (.invokevirtual 78, 3) := by decide +kernel
theorem dX8_fault_37 : decode cX8_fault 37 = .ok (.ireturn, 1) := by decide +kernel
theorem dX8_shot_0 : decode cX8_shot 0 = .ok (.aload_n 0, 1) := by decide +kernel
theorem dX8_shot_1 : decode cX8_shot 1 = .ok (.getfield 10, 3) := by decide +kernel
theorem dX8_shot_4 : decode cX8_shot 4 = .ok (.aload_n 0, 1) := by decide +kernel
theorem dX8_shot_5 : decode cX8_shot 5 = .ok (.getfield 19, 3) := by decide +kernel
theorem dX8_shot_8 : decode cX8_shot 8 = .ok (.getfield 72, 3) := by decide +kernel
theorem dX8_shot_11 : decode cX8_shot 11 = .ok (.invokevirtual 75, 3) := by decide +kernel
theorem dX8_shot_14 : decode cX8_shot 14 = .ok (.bipush (-6), 2) := by decide +kernel
theorem dX8_shot_16 : decode cX8_shot 16 = .ok (.if_icmp .eq 6, 3) := by decide +kernel
theorem dX8_shot_19 : decode cX8_shot 19 = .ok (.bipush (-5), 2) := by decide +kernel
theorem dX8_shot_21 : decode cX8_shot 21 = .ok (.ireturn, 1) := by decide +kernel
theorem dX8_shot_22 : decode cX8_shot 22 = .ok (.aload_n 0, 1) := by decide +kernel
theorem dX8_shot_23 : decode cX8_shot 23 = .ok (.getfield 19, 3) := by decide +kernel
theorem dX8_shot_26 : decode cX8_shot 26 = .ok (.getfield 81, 3) := by decide +kernel
theorem dX8_shot_29 : decode cX8_shot 29 = .ok (.invokevirtual 85, 3) := by decide +kernel
theorem dX8_shot_32 : decode cX8_shot 32 = .ok (.ifCond .eq 6, 3) := by decide +kernel
theorem dX8_shot_35 : decode cX8_shot 35 = .ok (.bipush (-4), 2) := by decide +kernel
theorem dX8_shot_37 : decode cX8_shot 37 = .ok (.ireturn, 1) := by decide +kernel
theorem dX8_shot_38 : decode cX8_shot 38 = .ok (.aload_n 0, 1) := by decide +kernel
theorem dX8_shot_39 : decode cX8_shot 39 = .ok (.getfield 19, 3) := by decide +kernel
theorem dX8_shot_42 : decode cX8_shot 42 = .ok (.getfield 81, 3) := by decide +kernel
theorem dX8_shot_45 : decode cX8_shot 45 = .ok (.aload_n 0, 1) := by decide +kernel
theorem dX8_shot_46 : decode cX8_shot 46 = .ok (.getfield 10, 3) := by decide +kernel
theorem dX8_shot_49 : decode cX8_shot 49 = .ok (.aload_n 0, 1) := by decide +kernel
theorem dX8_shot_50 : decode cX8_shot 50 = .ok (.getfield 19, 3) := by decide +kernel
theorem dX8_shot_53 : decode cX8_shot 53 = .ok (.getfield 72, 3) := by decide +kernel
theorem dX8_shot_56 : decode cX8_shot 56 = .ok (.invokevirtual 88, 3) := by decide +kernel
theorem dX8_shot_59 : decode cX8_shot 59 = .ok (.istore_n 1, 1) := by decide +kernel
theorem dX8_shot_60 : decode cX8_shot 60 = .ok (.aload_n 0, 1) := by decide +kernel
theorem dX8_shot_61 : decode cX8_shot 61 = .ok (.getfield 10, 3) := by decide +kernel
theorem dX8_shot_64 : decode cX8_shot 64 = .ok (.invokevirtual 68, 3) := by decide +kernel
theorem dX8_shot_67 : decode cX8_shot 67 = .ok (.pop, 1) := by decide +kernel
theorem dX8_shot_68 : decode cX8_shot 68 = .ok (.iload_n 1, 1) := by decide +kernel
theorem dX8_shot_69 : decode cX8_shot 69 = .ok (.ireturn, 1) := by decide +kernel
theorem dX8_look_0 : decode cX8_look 0 = .ok (.aload_n 0, 1) := by decide +kernel
theorem dX8_look_1 : decode cX8_look 1 = .ok (.getfield 19, 3) := by decide +kernel
theorem dX8_look_4 : decode cX8_look 4 = .ok (.getfield 81, 3) := by decide +kernel
theorem dX8_look_7 : decode cX8_look 7 = .ok (.iload_n 1, 1) := by decide +kernel
theorem dX8_look_8 : decode cX8_look 8 = .ok (.invokevirtual 92, 3) := by decide +kernel
theorem dX8_look_11 : decode cX8_look 11 = .ok (.ifCond .eq 14, 3) := by decide +kernel
theorem dX8_look_14 : decode cX8_look 14 = .ok (.aload_n 0, 1) := by decide +kernel
theorem dX8_look_15 : decode cX8_look 15 = .ok (.getfield 19, 3) := by decide +kernel
theorem dX8_look_18 : decode cX8_look 18 = .ok (.iload_n 2, 1) := by decide +kernel
theorem dX8_look_19 : decode cX8_look 19 = .ok (.invokevirtual 53, 3) := by decide +kernel
theorem dX8_look_22 : decode cX8_look 22 = .ok (.ifCond .ne 5, 3) := by decide +kernel
theorem dX8_look_25 : decode cX8_look 25 = .ok (.iconst (-1), 1) := by decide +kernel
theorem dX8_look_26 : decode cX8_look 26 = .ok (.ireturn, 1) := by decide +kernel
theorem dX8_look_27 : decode cX8_look 27 = .ok (.aload_n 0, 1) := by decide +kernel
theorem dX8_look_28 : decode cX8_look 28 = .ok (.getfield 19, 3) := by decide +kernel
theorem dX8_look_31 : decode cX8_look 31 = .ok (.getfield 81, 3) := by decide +kernel
theorem dX8_look_34 : decode cX8_look 34 = .ok (.iload_n 1, 1) := by decide +kernel
theorem dX8_look_35 : decode cX8_look 35 = .ok (.iload_n 2, 1) := by decide +kernel
theorem dX8_look_36 : decode cX8_look 36 = .ok (.invokevirtual 93, 3) := by decide +kernel
theorem dX8_look_39 : decode cX8_look 39 = .ok (.ireturn, 1) := by decide +kernel
theorem dX8_single_0 : decode cX8_single 0 = .ok (.iload_n 1, 1) := by decide +kernel
theorem dX8_single_1 : decode cX8_single 1 = .ok (.iconst 0, 1) := by decide +kernel
theorem dX8_single_2 : decode cX8_single 2 = .ok (.iconst 1, 1) := by decide +kernel
theorem dX8_single_3 : decode cX8_single 3 = .ok (.invokestatic 45, 3) := by decide +kernel
theorem dX8_single_6 : decode cX8_single 6 = .ok (.ifCond .ne 6, 3) := by decide +kernel
theorem dX8_single_9 : decode cX8_single 9 = .ok (.bipush (-2), 2) := by decide +kernel
theorem dX8_single_11 : decode cX8_single 11 = .ok (.ireturn, 1) := by decide +kernel
theorem dX8_single_12 : decode cX8_single 12 = .ok (.aload_n 0, 1) := by decide +kernel
theorem dX8_single_13 : decode cX8_single 13 = .ok (.getfield 19, 3) := by decide +kernel
theorem dX8_single_16 : decode cX8_single 16 = .ok (.getfield 81, 3) := by decide +kernel
theorem dX8_single_19 : decode cX8_single 19 = .ok (.aload_n 0, 1) := by decide +kernel
theorem dX8_single_20 : decode cX8_single 20 = .ok (.getfield 19, 3) := by decide +kernel
theorem dX8_single_23 : decode cX8_single 23 = .ok (.getfield 72, 3) := by decide +kernel
theorem dX8_single_26 : decode cX8_single 26 = .ok (.aload_n 0, 1) := by decide +kernel
theorem dX8_single_27 : decode cX8_single 27 = .ok (.getfield 19, 3) := by decide +kernel
theorem dX8_single_30 : decode cX8_single 30 = .ok (.getfield 57, 3) := by decide +kernel
theorem dX8_single_33 : decode cX8_single 33 = .ok (.invokevirtual 97, 3) := by decide +kernel
theorem dX8_single_36 : decode cX8_single 36 = .ok (.istore_n 2, 1) := by decide +kernel
theorem dX8_single_37 : decode cX8_single 37 = .ok (.iload_n 2, 1) := by decide +kernel
theorem dX8_single_38 : decode cX8_single 38 = .ok (.bipush (-6), 2) := by decide +kernel
theorem dX8_single_40 : decode cX8_single 40 = .ok (.if_icmp .eq 7, 3) := by decide +kernel
theorem dX8_single_43 : decode cX8_single 43 = .ok (.iload_n 1, 1) := by decide +kernel
theorem dX8_single_44 : decode cX8_single 44 = .ok (.ifCond .ne 5, 3) := by decide +kernel
theorem dX8_single_47 : decode cX8_single 47 = .ok (.iload_n 2, 1) := by decide +kernel
theorem dX8_single_48 : decode cX8_single 48 = .ok (.ireturn, 1) := by decide +kernel
theorem dX8_single_49 : decode cX8_single 49 = .ok (.aload_n 0, 1) := by decide +kernel
theorem dX8_single_50 : decode cX8_single 50 = .ok (.getfield 19, 3) := by decide +kernel
theorem dX8_single_53 : decode cX8_single 53 = .ok (.getfield 81, 3) := by decide +kernel
theorem dX8_single_56 : decode cX8_single 56 = .ok (.iload_n 2, 1) := by decide +kernel
theorem dX8_single_57 : decode cX8_single 57 = .ok (.aload_n 0, 1) := by decide +kernel
theorem dX8_single_58 : decode cX8_single 58 = .ok (.getfield 19, 3) := by decide +kernel
theorem dX8_single_61 : decode cX8_single 61 = .ok (.invokevirtual 100, 3) := by decide +kernel
theorem dX8_single_64 : decode cX8_single 64 = .ok (.invokevirtual 103, 3) := by decide +kernel
theorem dX8_single_67 : decode cX8_single 67 = .ok (.ireturn, 1) := by decide +kernel
theorem dX8_cover_0 : decode cX8_cover 0 = .ok (.aload_n 0, 1) := by decide +kernel
theorem dX8_cover_1 : decode cX8_cover 1 = .ok (.getfield 19, 3) := by decide +kernel
theorem dX8_cover_4 : decode cX8_cover 4 = .ok (.getfield 81, 3) := by decide +kernel
theorem dX8_cover_7 : decode cX8_cover 7 = .ok (.aload_n 0, 1) := by decide +kernel
theorem dX8_cover_8 : decode cX8_cover 8 = .ok (.getfield 19, 3) := by decide +kernel
theorem dX8_cover_11 : decode cX8_cover 11 = .ok (.invokevirtual 100, 3) := by decide +kernel
theorem dX8_cover_14 : decode cX8_cover 14 = .ok (.invokevirtual 106, 3) := by decide +kernel
theorem dX8_cover_17 : decode cX8_cover 17 = .ok (.ireturn, 1) := by decide +kernel
theorem dX8_spoils_0 : decode cX8_spoils 0 = .ok (.iload_n 1, 1) := by decide +kernel
theorem dX8_spoils_1 : decode cX8_spoils 1 = .ok (.iconst 0, 1) := by decide +kernel
theorem dX8_spoils_2 : decode cX8_spoils 2 = .ok (.iconst 1, 1) := by decide +kernel
theorem dX8_spoils_3 : decode cX8_spoils 3 = .ok (.invokestatic 45, 3) := by decide +kernel
theorem dX8_spoils_6 : decode cX8_spoils 6 = .ok (.ifCond .ne 6, 3) := by decide +kernel
theorem dX8_spoils_9 : decode cX8_spoils 9 = .ok (.bipush (-2), 2) := by decide +kernel
theorem dX8_spoils_11 : decode cX8_spoils 11 = .ok (.ireturn, 1) := by decide +kernel
theorem dX8_spoils_12 : decode cX8_spoils 12 = .ok (.aload_n 0, 1) := by decide +kernel
theorem dX8_spoils_13 : decode cX8_spoils 13 = .ok (.getfield 19, 3) := by decide +kernel
theorem dX8_spoils_16 : decode cX8_spoils 16 = .ok (.getfield 81, 3) := by decide +kernel
theorem dX8_spoils_19 : decode cX8_spoils 19 = .ok (.aload_n 0, 1) := by decide +kernel
theorem dX8_spoils_20 : decode cX8_spoils 20 = .ok (.getfield 19, 3) := by decide +kernel
theorem dX8_spoils_23 : decode cX8_spoils 23 = .ok (.getfield 72, 3) := by decide +kernel
theorem dX8_spoils_26 : decode cX8_spoils 26 = .ok (.invokevirtual 109, 3) := by decide +kernel
theorem dX8_spoils_29 : decode cX8_spoils 29 = .ok (.istore_n 2, 1) := by decide +kernel
theorem dX8_spoils_30 : decode cX8_spoils 30 = .ok (.iload_n 1, 1) := by decide +kernel
theorem dX8_spoils_31 : decode cX8_spoils 31 = .ok (.ifCond .ne 5, 3) := by decide +kernel
theorem dX8_spoils_34 : decode cX8_spoils 34 = .ok (.iload_n 2, 1) := by decide +kernel
theorem dX8_spoils_35 : decode cX8_spoils 35 = .ok (.ireturn, 1) := by decide +kernel
theorem dX8_spoils_36 : decode cX8_spoils 36 = .ok (.iload_n 2, 1) := by decide +kernel
theorem dX8_spoils_37 : decode cX8_spoils 37 = .ok (.bipush (-6), 2) := by decide +kernel
theorem dX8_spoils_39 : decode cX8_spoils 39 = .ok (.if_icmp .ne 7, 3) := by decide +kernel
theorem dX8_spoils_42 : decode cX8_spoils 42 = .ok (.iconst 0, 1) := by decide +kernel
theorem dX8_spoils_43 : decode cX8_spoils 43 = .ok (.goto 14, 3) := by decide +kernel
theorem dX8_spoils_46 : decode cX8_spoils 46 = .ok (.aload_n 0, 1) := by decide +kernel
theorem dX8_spoils_47 : decode cX8_spoils 47 = .ok (.getfield 19, 3) := by decide +kernel
theorem dX8_spoils_50 : decode cX8_spoils 50 = .ok (.getfield 81, 3) := by decide +kernel
theorem dX8_spoils_53 : decode cX8_spoils 53 = .ok (.iload_n 2, 1) := by decide +kernel
theorem dX8_spoils_54 : decode cX8_spoils 54 = .ok (.invokevirtual 112, 3) := by decide +kernel
theorem dX8_spoils_57 : decode cX8_spoils 57 = .ok (.ireturn, 1) := by decide +kernel
theorem dX8_hands_0 : decode cX8_hands 0 = .ok (.iload_n 1, 1) := by decide +kernel
theorem dX8_hands_1 : decode cX8_hands 1 = .ok (.iconst 0, 1) := by decide +kernel
theorem dX8_hands_2 : decode cX8_hands 2 = .ok (.aload_n 0, 1) := by decide +kernel
theorem dX8_hands_3 : decode cX8_hands 3 = .ok (.getfield 19, 3) := by decide +kernel
theorem dX8_hands_6 : decode cX8_hands 6 = .ok (.invokevirtual 100, 3) := by decide +kernel
theorem dX8_hands_9 : decode cX8_hands 9 = .ok (.iconst 1, 1) := by decide +kernel
theorem dX8_hands_10 : decode cX8_hands 10 = .ok (.ishr, 1) := by decide +kernel
theorem dX8_hands_11 : decode cX8_hands 11 = .ok (.invokestatic 45, 3) := by decide +kernel
theorem dX8_hands_14 : decode cX8_hands 14 = .ok (.ifCond .ne 6, 3) := by decide +kernel
theorem dX8_hands_17 : decode cX8_hands 17 = .ok (.bipush (-2), 2) := by decide +kernel
theorem dX8_hands_19 : decode cX8_hands 19 = .ok (.ireturn, 1) := by decide +kernel
theorem dX8_hands_20 : decode cX8_hands 20 = .ok (.aload_n 0, 1) := by decide +kernel
theorem dX8_hands_21 : decode cX8_hands 21 = .ok (.getfield 19, 3) := by decide +kernel
theorem dX8_hands_24 : decode cX8_hands 24 = .ok (.getfield 81, 3) := by decide +kernel
theorem dX8_hands_27 : decode cX8_hands 27 = .ok (.getfield 115, 3) := by decide +kernel
theorem dX8_hands_30 : decode cX8_hands 30 = .ok (.istore_n 2, 1) := by decide +kernel
theorem dX8_hands_31 : decode cX8_hands 31 = .ok (.aload_n 0, 1) := by decide +kernel
theorem dX8_hands_32 : decode cX8_hands 32 = .ok (.getfield 19, 3) := by decide +kernel
theorem dX8_hands_35 : decode cX8_hands 35 = .ok (.getfield 81, 3) := by decide +kernel
theorem dX8_hands_38 : decode cX8_hands 38 = .ok (.iload_n 1, 1) := by decide +kernel
theorem dX8_hands_39 : decode cX8_hands 39 = .ok (.putfield 115, 3) := by decide +kernel
theorem dX8_hands_42 : decode cX8_hands 42 = .ok (.iload_n 2, 1) := by decide +kernel
theorem dX8_hands_43 : decode cX8_hands 43 = .ok (.ireturn, 1) := by decide +kernel
theorem dX8_heads_0 : decode cX8_heads 0 = .ok (.iload_n 1, 1) := by decide +kernel
theorem dX8_heads_1 : decode cX8_heads 1 = .ok (.iconst (-1), 1) := by decide +kernel
theorem dX8_heads_2 : decode cX8_heads 2 = .ok (.if_icmp .eq 17, 3) := by decide +kernel
theorem dX8_heads_5 : decode cX8_heads 5 = .ok (.aload_n 0, 1) := by decide +kernel
theorem dX8_heads_6 : decode cX8_heads 6 = .ok (.getfield 19, 3) := by decide +kernel
theorem dX8_heads_9 : decode cX8_heads 9 = .ok (.iload_n 1, 1) := by decide +kernel
theorem dX8_heads_10 : decode cX8_heads 10 = .ok (.invokevirtual 53, 3) := by decide +kernel
theorem dX8_heads_13 : decode cX8_heads 13 = .ok (.ifCond .ne 6, 3) := by decide +kernel
theorem dX8_heads_16 : decode cX8_heads 16 = .ok (.bipush (-6), 2) := by decide +kernel
theorem dX8_heads_18 : decode cX8_heads 18 = .ok (.ireturn, 1) := by decide +kernel
theorem dX8_heads_19 : decode cX8_heads 19 = .ok (.aload_n 0, 1) := by decide +kernel
theorem dX8_heads_20 : decode cX8_heads 20 = .ok (.getfield 30, 3) := by decide +kernel
theorem dX8_heads_23 : decode cX8_heads 23 = .ok (.aload_n 0, 1) := by decide +kernel
theorem dX8_heads_24 : decode cX8_heads 24 = .ok (.getfield 19, 3) := by decide +kernel
theorem dX8_heads_27 : decode cX8_heads 27 = .ok (.getfield 81, 3) := by decide +kernel
theorem dX8_heads_30 : decode cX8_heads 30 = .ok (.aload_n 0, 1) := by decide +kernel
theorem dX8_heads_31 : decode cX8_heads 31 = .ok (.getfield 19, 3) := by decide +kernel
theorem dX8_heads_34 : decode cX8_heads 34 = .ok (.getfield 72, 3) := by decide +kernel
theorem dX8_heads_37 : decode cX8_heads 37 = .ok (.invokevirtual 118, 3) := by decide +kernel
theorem dX8_heads_40 : decode cX8_heads 40 = .ok (.istore_n 2, 1) := by decide +kernel
theorem dX8_heads_41 : decode cX8_heads 41 = .ok (.iload_n 2, 1) := by decide +kernel
theorem dX8_heads_42 : decode cX8_heads 42 = .ok (.bipush (-6), 2) := by decide +kernel
theorem dX8_heads_44 : decode cX8_heads 44 = .ok (.if_icmp .eq 8, 3) := by decide +kernel
theorem dX8_heads_47 : decode cX8_heads 47 = .ok (.iload_n 1, 1) := by decide +kernel
theorem dX8_heads_48 : decode cX8_heads 48 = .ok (.iconst (-1), 1) := by decide +kernel
theorem dX8_heads_49 : decode cX8_heads 49 = .ok (.if_icmp .ne 5, 3) := by decide +kernel
theorem dX8_heads_52 : decode cX8_heads 52 = .ok (.iload_n 2, 1) := by decide +kernel
theorem dX8_heads_53 : decode cX8_heads 53 = .ok (.ireturn, 1) := by decide +kernel
theorem dX8_heads_54 : decode cX8_heads 54 = .ok (.aload_n 0, 1) := by decide +kernel
theorem dX8_heads_55 : decode cX8_heads 55 = .ok (.getfield 30, 3) := by decide +kernel
theorem dX8_heads_58 : decode cX8_heads 58 = .ok (.iload_n 1, 1) := by decide +kernel
theorem dX8_heads_59 : decode cX8_heads 59 = .ok (.invokevirtual 122, 3) := by decide +kernel
theorem dX8_heads_62 : decode cX8_heads 62 = .ok (.ireturn, 1) := by decide +kernel
theorem dX8_left_0 : decode cX8_left 0 = .ok (.aload_n 0, 1) := by decide +kernel
theorem dX8_left_1 : decode cX8_left 1 = .ok (.getfield 19, 3) := by decide +kernel
theorem dX8_left_4 : decode cX8_left 4 = .ok (.getfield 81, 3) := by decide +kernel
theorem dX8_left_7 : decode cX8_left 7 = .ok (.aload_n 0, 1) := by decide +kernel
theorem dX8_left_8 : decode cX8_left 8 = .ok (.getfield 19, 3) := by decide +kernel
theorem dX8_left_11 : decode cX8_left 11 = .ok (.getfield 72, 3) := by decide +kernel
theorem dX8_left_14 : decode cX8_left 14 = .ok (.invokevirtual 125, 3) := by decide +kernel
theorem dX8_left_17 : decode cX8_left 17 = .ok (.ireturn, 1) := by decide +kernel
theorem dX8_blink_0 : decode cX8_blink 0 = .ok (.aload_n 0, 1) := by decide +kernel
theorem dX8_blink_1 : decode cX8_blink 1 = .ok (.getfield 19, 3) := by decide +kernel
theorem dX8_blink_4 : decode cX8_blink 4 = .ok (.iload_n 1, 1) := by decide +kernel
theorem dX8_blink_5 : decode cX8_blink 5 = .ok (.invokevirtual 53, 3) := by decide +kernel
theorem dX8_blink_8 : decode cX8_blink 8 = .ok (.ifCond .ne 5, 3) := by decide +kernel
theorem dX8_blink_11 : decode cX8_blink 11 = .ok (.iconst (-1), 1) := by decide +kernel
theorem dX8_blink_12 : decode cX8_blink 12 = .ok (.ireturn, 1) := by decide +kernel
theorem dX8_blink_13 : decode cX8_blink 13 = .ok (.aload_n 0, 1) := by decide +kernel
theorem dX8_blink_14 : decode cX8_blink 14 = .ok (.getfield 19, 3) := by decide +kernel
theorem dX8_blink_17 : decode cX8_blink 17 = .ok (.getfield 128, 3) := by decide +kernel
theorem dX8_blink_20 : decode cX8_blink 20 = .ok (.iload_n 1, 1) := by decide +kernel
theorem dX8_blink_21 : decode cX8_blink 21 = .ok (.iload_n 2, 1) := by decide +kernel
theorem dX8_blink_22 : decode cX8_blink 22 = .ok (.iload_n 3, 1) := by decide +kernel
theorem dX8_blink_23 : decode cX8_blink 23 = .ok (.invokevirtual 132, 3) := by decide +kernel
theorem dX8_blink_26 : decode cX8_blink 26 = .ok (.ifCond .ne 6, 3) := by decide +kernel
theorem dX8_blink_29 : decode cX8_blink 29 = .ok (.bipush (-2), 2) := by decide +kernel
theorem dX8_blink_31 : decode cX8_blink 31 = .ok (.ireturn, 1) := by decide +kernel
theorem dX8_blink_32 : decode cX8_blink 32 = .ok (.aload_n 0, 1) := by decide +kernel
theorem dX8_blink_33 : decode cX8_blink 33 = .ok (.getfield 19, 3) := by decide +kernel
theorem dX8_blink_36 : decode cX8_blink 36 = .ok (.getfield 128, 3) := by decide +kernel
theorem dX8_blink_39 : decode cX8_blink 39 = .ok (.iload_n 1, 1) := by decide +kernel
theorem dX8_blink_40 : decode cX8_blink 40 = .ok (.iload_n 2, 1) := by decide +kernel
theorem dX8_blink_41 : decode cX8_blink 41 = .ok (.iload_n 3, 1) := by decide +kernel
theorem dX8_blink_42 : decode cX8_blink 42 = .ok (.invokevirtual 137, 3) := by decide +kernel
theorem dX8_blink_45 : decode cX8_blink 45 = .ok (.ireturn, 1) := by decide +kernel
theorem dX8_flash_0 : decode cX8_flash 0 = .ok (.iload_n 1, 1) := by decide +kernel
theorem dX8_flash_1 : decode cX8_flash 1 = .ok (.iconst (-1), 1) := by decide +kernel
theorem dX8_flash_2 : decode cX8_flash 2 = .ok (.sipush 999, 3) := by decide +kernel
theorem dX8_flash_5 : decode cX8_flash 5 = .ok (.invokestatic 45, 3) := by decide +kernel
theorem dX8_flash_8 : decode cX8_flash 8 = .ok (.ifCond .ne 6, 3) := by decide +kernel
theorem dX8_flash_11 : decode cX8_flash 11 = .ok (.bipush (-2), 2) := by decide +kernel
theorem dX8_flash_13 : decode cX8_flash 13 = .ok (.ireturn, 1) := by decide +kernel
theorem dX8_flash_14 : decode cX8_flash 14 = .ok (.aload_n 0, 1) := by decide +kernel
theorem dX8_flash_15 : decode cX8_flash 15 = .ok (.getfield 19, 3) := by decide +kernel
theorem dX8_flash_18 : decode cX8_flash 18 = .ok (.getfield 128, 3) := by decide +kernel
theorem dX8_flash_21 : decode cX8_flash 21 = .ok (.getfield 141, 3) := by decide +kernel
theorem dX8_flash_24 : decode cX8_flash 24 = .ok (.istore_n 2, 1) := by decide +kernel
theorem dX8_flash_25 : decode cX8_flash 25 = .ok (.aload_n 0, 1) := by decide +kernel
theorem dX8_flash_26 : decode cX8_flash 26 = .ok (.getfield 19, 3) := by decide +kernel
theorem dX8_flash_29 : decode cX8_flash 29 = .ok (.getfield 128, 3) := by decide +kernel
theorem dX8_flash_32 : decode cX8_flash 32 = .ok (.iload_n 1, 1) := by decide +kernel
theorem dX8_flash_33 : decode cX8_flash 33 = .ok (.putfield 141, 3) := by decide +kernel
theorem dX8_flash_36 : decode cX8_flash 36 = .ok (.iload_n 2, 1) := by decide +kernel
theorem dX8_flash_37 : decode cX8_flash 37 = .ok (.ireturn, 1) := by decide +kernel
theorem dX8_open_0 : decode cX8_open 0 = .ok (.iload_n 1, 1) := by decide +kernel
theorem dX8_open_1 : decode cX8_open 1 = .ok (.iconst 0, 1) := by decide +kernel
theorem dX8_open_2 : decode cX8_open 2 = .ok (.sipush 999, 3) := by decide +kernel
theorem dX8_open_5 : decode cX8_open 5 = .ok (.invokestatic 45, 3) := by decide +kernel
theorem dX8_open_8 : decode cX8_open 8 = .ok (.ifCond .ne 6, 3) := by decide +kernel
theorem dX8_open_11 : decode cX8_open 11 = .ok (.bipush (-2), 2) := by decide +kernel
theorem dX8_open_13 : decode cX8_open 13 = .ok (.ireturn, 1) := by decide +kernel
theorem dX8_open_14 : decode cX8_open 14 = .ok (.aload_n 0, 1) := by decide +kernel
theorem dX8_open_15 : decode cX8_open 15 = .ok (.getfield 19, 3) := by decide +kernel
theorem dX8_open_18 : decode cX8_open 18 = .ok (.getfield 128, 3) := by decide +kernel
theorem dX8_open_21 : decode cX8_open 21 = .ok (.iload_n 1, 1) := by decide +kernel
theorem dX8_open_22 : decode cX8_open 22 = .ok (.aload_n 0, 1) := by decide +kernel
theorem dX8_open_23 : decode cX8_open 23 = .ok (.getfield 19, 3) := by decide +kernel
theorem dX8_open_26 : decode cX8_open 26 = .ok (.getfield 72, 3) := by decide +kernel
theorem dX8_open_29 : decode cX8_open 29 = .ok (.invokevirtual 144, 3) := by decide +kernel
theorem dX8_open_32 : decode cX8_open 32 = .ok (.ireturn, 1) := by decide +kernel
theorem dX8_fire_0 : decode cX8_fire 0 = .ok (.iload_n 1, 1) := by decide +kernel
theorem dX8_fire_1 : decode cX8_fire 1 = .ok (.iconst 0, 1) := by decide +kernel
theorem dX8_fire_2 : decode cX8_fire 2 = .ok (.sipush 999, 3) := by decide +kernel
theorem dX8_fire_5 : decode cX8_fire 5 = .ok (.invokestatic 45, 3) := by decide +kernel
theorem dX8_fire_8 : decode cX8_fire 8 = .ok (.ifCond .eq 14, 3) := by decide +kernel
theorem dX8_fire_11 : decode cX8_fire 11 = .ok (.iload_n 2, 1) := by decide +kernel
theorem dX8_fire_12 : decode cX8_fire 12 = .ok (.iload_n 1, 1) := by decide +kernel
theorem dX8_fire_13 : decode cX8_fire 13 = .ok (.sipush 999, 3) := by decide +kernel
theorem dX8_fire_16 : decode cX8_fire 16 = .ok (.invokestatic 45, 3) := by decide +kernel
theorem dX8_fire_19 : decode cX8_fire 19 = .ok (.ifCond .ne 6, 3) := by decide +kernel
theorem dX8_fire_22 : decode cX8_fire 22 = .ok (.bipush (-2), 2) := by decide +kernel
theorem dX8_fire_24 : decode cX8_fire 24 = .ok (.ireturn, 1) := by decide +kernel
theorem dX8_fire_25 : decode cX8_fire 25 = .ok (.iload_n 3, 1) := by decide +kernel
theorem dX8_fire_26 : decode cX8_fire 26 = .ok (.iconst 0, 1) := by decide +kernel
theorem dX8_fire_27 : decode cX8_fire 27 = .ok (.iconst 2, 1) := by decide +kernel
theorem dX8_fire_28 : decode cX8_fire 28 = .ok (.invokestatic 45, 3) := by decide +kernel
theorem dX8_fire_31 : decode cX8_fire 31 = .ok (.ifCond .ne 6, 3) := by decide +kernel
theorem dX8_fire_34 : decode cX8_fire 34 = .ok (.bipush (-2), 2) := by decide +kernel
theorem dX8_fire_36 : decode cX8_fire 36 = .ok (.ireturn, 1) := by decide +kernel
theorem dX8_fire_37 : decode cX8_fire 37 = .ok (.iload_n 3, 1) := by decide +kernel
theorem dX8_fire_38 : decode cX8_fire 38 = .ok (.iconst 2, 1) := by decide +kernel
theorem dX8_fire_39 : decode cX8_fire 39 = .ok (.if_icmp .ne 23, 3) := by decide +kernel
theorem dX8_fire_42 : decode cX8_fire 42 = .ok (.aload_n 0, 1) := by decide +kernel
theorem dX8_fire_43 : decode cX8_fire 43 = .ok (.getfield 19, 3) := by decide +kernel
theorem dX8_fire_46 : decode cX8_fire 46 = .ok (.getfield 128, 3) := by decide +kernel
theorem dX8_fire_49 : decode cX8_fire 49 = .ok (.iload_n 1, 1) := by decide +kernel
theorem dX8_fire_50 : decode cX8_fire 50 = .ok (.iload_n 2, 1) := by decide +kernel
theorem dX8_fire_51 : decode cX8_fire 51 = .ok (.aload_n 0, 1) := by decide +kernel
theorem dX8_fire_52 : decode cX8_fire 52 = .ok (.getfield 19, 3) := by decide +kernel
theorem dX8_fire_55 : decode cX8_fire 55 = .ok (.getfield 72, 3) := by decide +kernel
theorem dX8_fire_58 : decode cX8_fire 58 = .ok (.invokevirtual 147, 3) := by decide +kernel
theorem dX8_fire_61 : decode cX8_fire 61 = .ok (.ireturn, 1) := by decide +kernel
theorem dX8_fire_62 : decode cX8_fire 62 = .ok (.aload_n 0, 1) := by decide +kernel
theorem dX8_fire_63 : decode cX8_fire 63 = .ok (.getfield 19, 3) := by decide +kernel
theorem dX8_fire_66 : decode cX8_fire 66 = .ok (.getfield 128, 3) := by decide +kernel
theorem dX8_fire_69 : decode cX8_fire 69 = .ok (.iload_n 1, 1) := by decide +kernel
theorem dX8_fire_70 : decode cX8_fire 70 = .ok (.iload_n 2, 1) := by decide +kernel
theorem dX8_fire_71 : decode cX8_fire 71 = .ok (.aload_n 0, 1) := by decide +kernel
theorem dX8_fire_72 : decode cX8_fire 72 = .ok (.getfield 19, 3) := by decide +kernel
theorem dX8_fire_75 : decode cX8_fire 75 = .ok (.getfield 72, 3) := by decide +kernel
theorem dX8_fire_78 : decode cX8_fire 78 = .ok (.invokevirtual 150, 3) := by decide +kernel
theorem dX8_fire_81 : decode cX8_fire 81 = .ok (.istore 4, 2) := by decide +kernel
theorem dX8_fire_83 : decode cX8_fire 83 = .ok (.iload_n 3, 1) := by decide +kernel
theorem dX8_fire_84 : decode cX8_fire 84 = .ok (.ifCond .ne 8, 3) := by decide +kernel
theorem dX8_fire_87 : decode cX8_fire 87 = .ok (.iload 4, 2) := by decide +kernel
theorem dX8_fire_89 : decode cX8_fire 89 = .ok (.goto 25, 3) := by decide +kernel
theorem dX8_fire_92 : decode cX8_fire 92 = .ok (.aload_n 0, 1) := by decide +kernel
theorem dX8_fire_93 : decode cX8_fire 93 = .ok (.getfield 19, 3) := by decide +kernel
theorem dX8_fire_96 : decode cX8_fire 96 = .ok (.getfield 128, 3) := by decide +kernel
theorem dX8_fire_99 : decode cX8_fire 99 = .ok (.iload 4, 2) := by decide +kernel
theorem dX8_fire_101 : decode cX8_fire 101 = .ok (.aload_n 0, 1) := by decide +kernel
theorem dX8_fire_102 : decode cX8_fire 102 = .ok (.getfield 19, 3) := by decide +kernel
theorem dX8_fire_105 : decode cX8_fire 105 = .ok (.getfield 72, 3) := by decide +kernel
theorem dX8_fire_108 : decode cX8_fire 108 = .ok (.invokevirtual 144, 3) := by decide +kernel
theorem dX8_fire_111 : decode cX8_fire 111 = .ok (.invokestatic 153, 3) := by decide +kernel
theorem dX8_fire_114 : decode cX8_fire 114 = .ok (.ireturn, 1) := by decide +kernel
theorem dX8_bad_0 : decode cX8_bad 0 = .ok (.iload_n 1, 1) := by decide +kernel
theorem dX8_bad_1 : decode cX8_bad 1 = .ok (.iconst (-1), 1) := by decide +kernel
theorem dX8_bad_2 : decode cX8_bad 2 = .ok (.if_icmp .ne 30, 3) := by decide +kernel
theorem dX8_bad_5 : decode cX8_bad 5 = .ok (.iload_n 2, 1) := by decide +kernel
theorem dX8_bad_6 : decode cX8_bad 6 = .ok (.iconst 0, 1) := by decide +kernel
theorem dX8_bad_7 : decode cX8_bad 7 = .ok (.bipush 20, 2) := by decide +kernel
theorem dX8_bad_9 : decode cX8_bad 9 = .ok (.invokestatic 45, 3) := by decide +kernel
theorem dX8_bad_12 : decode cX8_bad 12 = .ok (.ifCond .eq 17, 3) := by decide +kernel
theorem dX8_bad_15 : decode cX8_bad 15 = .ok (.aload_n 0, 1) := by decide +kernel
theorem dX8_bad_16 : decode cX8_bad 16 = .ok (.getfield 19, 3) := by decide +kernel
theorem dX8_bad_19 : decode cX8_bad 19 = .ok (.getfield 158, 3) := by decide +kernel
theorem dX8_bad_22 : decode cX8_bad 22 = .ok (.iload_n 2, 1) := by decide +kernel
theorem dX8_bad_23 : decode cX8_bad 23 = .ok (.invokevirtual 162, 3) := by decide +kernel
theorem dX8_bad_26 : decode cX8_bad 26 = .ok (.goto 5, 3) := by decide +kernel
theorem dX8_bad_29 : decode cX8_bad 29 = .ok (.bipush (-2), 2) := by decide +kernel
theorem dX8_bad_31 : decode cX8_bad 31 = .ok (.ireturn, 1) := by decide +kernel
theorem dX8_bad_32 : decode cX8_bad 32 = .ok (.aload_n 0, 1) := by decide +kernel
theorem dX8_bad_33 : decode cX8_bad 33 = .ok (.getfield 19, 3) := by decide +kernel
theorem dX8_bad_36 : decode cX8_bad 36 = .ok (.iload_n 1, 1) := by decide +kernel
theorem dX8_bad_37 : decode cX8_bad 37 = .ok (.invokevirtual 53, 3) := by decide +kernel
theorem dX8_bad_40 : decode cX8_bad 40 = .ok (.ifCond .ne 5, 3) := by decide +kernel
theorem dX8_bad_43 : decode cX8_bad 43 = .ok (.iconst (-1), 1) := by decide +kernel
theorem dX8_bad_44 : decode cX8_bad 44 = .ok (.ireturn, 1) := by decide +kernel
theorem dX8_bad_45 : decode cX8_bad 45 = .ok (.iload_n 2, 1) := by decide +kernel
theorem dX8_bad_46 : decode cX8_bad 46 = .ok (.iconst 0, 1) := by decide +kernel
theorem dX8_bad_47 : decode cX8_bad 47 = .ok (.iconst 4, 1) := by decide +kernel
theorem dX8_bad_48 : decode cX8_bad 48 = .ok (.invokestatic 45, 3) := by decide +kernel
theorem dX8_bad_51 : decode cX8_bad 51 = .ok (.ifCond .eq 18, 3) := by decide +kernel
theorem dX8_bad_54 : decode cX8_bad 54 = .ok (.aload_n 0, 1) := by decide +kernel
theorem dX8_bad_55 : decode cX8_bad 55 = .ok (.getfield 19, 3) := by decide +kernel
theorem dX8_bad_58 : decode cX8_bad 58 = .ok (.getfield 158, 3) := by decide +kernel
theorem dX8_bad_61 : decode cX8_bad 61 = .ok (.iload_n 1, 1) := by decide +kernel
theorem dX8_bad_62 : decode cX8_bad 62 = .ok (.iload_n 2, 1) := by decide +kernel
theorem dX8_bad_63 : decode cX8_bad 63 = .ok (.invokevirtual 167, 3) := by decide +kernel
theorem dX8_bad_66 : decode cX8_bad 66 = .ok (.goto 5, 3) := by decide +kernel
theorem dX8_bad_69 : decode cX8_bad 69 = .ok (.bipush (-2), 2) := by decide +kernel
theorem dX8_bad_71 : decode cX8_bad 71 = .ok (.ireturn, 1) := by decide +kernel
theorem dX8_likely_0 : decode cX8_likely 0 = .ok (.iload_n 1, 1) := by decide +kernel
theorem dX8_likely_1 : decode cX8_likely 1 = .ok (.iconst 0, 1) := by decide +kernel
theorem dX8_likely_2 : decode cX8_likely 2 = .ok (.bipush 20, 2) := by decide +kernel
theorem dX8_likely_4 : decode cX8_likely 4 = .ok (.invokestatic 45, 3) := by decide +kernel
theorem dX8_likely_7 : decode cX8_likely 7 = .ok (.ifCond .eq 12, 3) := by decide +kernel
theorem dX8_likely_10 : decode cX8_likely 10 = .ok (.iload_n 2, 1) := by decide +kernel
theorem dX8_likely_11 : decode cX8_likely 11 = .ok (.iconst 0, 1) := by decide +kernel
theorem dX8_likely_12 : decode cX8_likely 12 = .ok (.iconst 1, 1) := by decide +kernel
theorem dX8_likely_13 : decode cX8_likely 13 = .ok (.invokestatic 45, 3) := by decide +kernel
theorem dX8_likely_16 : decode cX8_likely 16 = .ok (.ifCond .ne 7, 3) := by decide +kernel
theorem dX8_likely_19 : decode cX8_likely 19 = .ok (.ldc2_w 170, 3) := by decide +kernel
theorem dX8_likely_22 : decode cX8_likely 22 = .ok (.lreturn, 1) := by decide +kernel
theorem dX8_likely_23 : decode cX8_likely 23 = .ok (.aload_n 0, 1) := by decide +kernel
theorem dX8_likely_24 : decode cX8_likely 24 = .ok (.getfield 19, 3) := by decide +kernel
theorem dX8_likely_27 : decode cX8_likely 27 = .ok (.getfield 158, 3) := by decide +kernel
theorem dX8_likely_30 : decode cX8_likely 30 = .ok (.iload_n 1, 1) := by decide +kernel
theorem dX8_likely_31 : decode cX8_likely 31 = .ok (.aload_n 0, 1) := by decide +kernel
theorem dX8_likely_32 : decode cX8_likely 32 = .ok (.getfield 19, 3) := by decide +kernel
theorem dX8_likely_35 : decode cX8_likely 35 = .ok (.getfield 72, 3) := by decide +kernel
theorem dX8_likely_38 : decode cX8_likely 38 = .ok (.invokevirtual 172, 3) := by decide +kernel
theorem dX8_likely_41 : decode cX8_likely 41 = .ok (.iconst 1, 1) := by decide +kernel
theorem dX8_likely_42 : decode cX8_likely 42 = .ok (.aload_n 0, 1) := by decide +kernel
theorem dX8_likely_43 : decode cX8_likely 43 = .ok (.getfield 19, 3) := by decide +kernel
theorem dX8_likely_46 : decode cX8_likely 46 = .ok (.getfield 72, 3) := by decide +kernel
theorem dX8_likely_49 : decode cX8_likely 49 = .ok (.invokestatic 176, 3) := by decide +kernel
theorem dX8_likely_52 : decode cX8_likely 52 = .ok (.iload_n 2, 1) := by decide +kernel
theorem dX8_likely_53 : decode cX8_likely 53 = .ok (.invokestatic 179, 3) := by decide +kernel
theorem dX8_likely_56 : decode cX8_likely 56 = .ok (.lreturn, 1) := by decide +kernel
theorem dX8_one_0 : decode cX8_one 0 = .ok (.iload_n 1, 1) := by decide +kernel
theorem dX8_one_1 : decode cX8_one 1 = .ok (.iconst 1, 1) := by decide +kernel
theorem dX8_one_2 : decode cX8_one 2 = .ok (.iconst 3, 1) := by decide +kernel
theorem dX8_one_3 : decode cX8_one 3 = .ok (.invokestatic 45, 3) := by decide +kernel
theorem dX8_one_6 : decode cX8_one 6 = .ok (.ifCond .eq 12, 3) := by decide +kernel
theorem dX8_one_9 : decode cX8_one 9 = .ok (.iload_n 2, 1) := by decide +kernel
theorem dX8_one_10 : decode cX8_one 10 = .ok (.iconst 0, 1) := by decide +kernel
theorem dX8_one_11 : decode cX8_one 11 = .ok (.iconst 1, 1) := by decide +kernel
theorem dX8_one_12 : decode cX8_one 12 = .ok (.invokestatic 45, 3) := by decide +kernel
theorem dX8_one_15 : decode cX8_one 15 = .ok (.ifCond .ne 7, 3) := by decide +kernel
theorem dX8_one_18 : decode cX8_one 18 = .ok (.ldc2_w 170, 3) := by decide +kernel
theorem dX8_one_21 : decode cX8_one 21 = .ok (.lreturn, 1) := by decide +kernel
theorem dX8_one_22 : decode cX8_one 22 = .ok (.aload_n 0, 1) := by decide +kernel
theorem dX8_one_23 : decode cX8_one 23 = .ok (.getfield 19, 3) := by decide +kernel
theorem dX8_one_26 : decode cX8_one 26 = .ok (.getfield 158, 3) := by decide +kernel
theorem dX8_one_29 : decode cX8_one 29 = .ok (.iload_n 1, 1) := by decide +kernel
theorem dX8_one_30 : decode cX8_one 30 = .ok (.aload_n 0, 1) := by decide +kernel
theorem dX8_one_31 : decode cX8_one 31 = .ok (.getfield 19, 3) := by decide +kernel
theorem dX8_one_34 : decode cX8_one 34 = .ok (.getfield 72, 3) := by decide +kernel
theorem dX8_one_37 : decode cX8_one 37 = .ok (.invokevirtual 183, 3) := by decide +kernel
theorem dX8_one_40 : decode cX8_one 40 = .ok (.iload_n 1, 1) := by decide +kernel
theorem dX8_one_41 : decode cX8_one 41 = .ok (.aload_n 0, 1) := by decide +kernel
theorem dX8_one_42 : decode cX8_one 42 = .ok (.getfield 19, 3) := by decide +kernel
theorem dX8_one_45 : decode cX8_one 45 = .ok (.getfield 72, 3) := by decide +kernel
theorem dX8_one_48 : decode cX8_one 48 = .ok (.invokestatic 176, 3) := by decide +kernel
theorem dX8_one_51 : decode cX8_one 51 = .ok (.iload_n 2, 1) := by decide +kernel
theorem dX8_one_52 : decode cX8_one 52 = .ok (.invokestatic 179, 3) := by decide +kernel
theorem dX8_one_55 : decode cX8_one 55 = .ok (.lreturn, 1) := by decide +kernel
theorem dX8_many_0 : decode cX8_many 0 = .ok (.iload_n 2, 1) := by decide +kernel
theorem dX8_many_1 : decode cX8_many 1 = .ok (.iconst 1, 1) := by decide +kernel
theorem dX8_many_2 : decode cX8_many 2 = .ok (.bipush 100, 2) := by decide +kernel
theorem dX8_many_4 : decode cX8_many 4 = .ok (.invokestatic 45, 3) := by decide +kernel
theorem dX8_many_7 : decode cX8_many 7 = .ok (.ifCond .eq 12, 3) := by decide +kernel
theorem dX8_many_10 : decode cX8_many 10 = .ok (.iload_n 1, 1) := by decide +kernel
theorem dX8_many_11 : decode cX8_many 11 = .ok (.iconst 0, 1) := by decide +kernel
theorem dX8_many_12 : decode cX8_many 12 = .ok (.iload_n 2, 1) := by decide +kernel
theorem dX8_many_13 : decode cX8_many 13 = .ok (.invokestatic 45, 3) := by decide +kernel
theorem dX8_many_16 : decode cX8_many 16 = .ok (.ifCond .ne 6, 3) := by decide +kernel
theorem dX8_many_19 : decode cX8_many 19 = .ok (.bipush (-2), 2) := by decide +kernel
theorem dX8_many_21 : decode cX8_many 21 = .ok (.ireturn, 1) := by decide +kernel
theorem dX8_many_22 : decode cX8_many 22 = .ok (.iconst 1, 1) := by decide +kernel
theorem dX8_many_23 : decode cX8_many 23 = .ok (.istore_n 3, 1) := by decide +kernel
theorem dX8_many_24 : decode cX8_many 24 = .ok (.iload_n 3, 1) := by decide +kernel
theorem dX8_many_25 : decode cX8_many 25 = .ok (.iconst 3, 1) := by decide +kernel
theorem dX8_many_26 : decode cX8_many 26 = .ok (.if_icmp .gt 50, 3) := by decide +kernel
theorem dX8_many_29 : decode cX8_many 29 = .ok (.aload_n 0, 1) := by decide +kernel
theorem dX8_many_30 : decode cX8_many 30 = .ok (.getfield 19, 3) := by decide +kernel
theorem dX8_many_33 : decode cX8_many 33 = .ok (.getfield 158, 3) := by decide +kernel
theorem dX8_many_36 : decode cX8_many 36 = .ok (.iload_n 3, 1) := by decide +kernel
theorem dX8_many_37 : decode cX8_many 37 = .ok (.aload_n 0, 1) := by decide +kernel
theorem dX8_many_38 : decode cX8_many 38 = .ok (.getfield 19, 3) := by decide +kernel
theorem dX8_many_41 : decode cX8_many 41 = .ok (.getfield 72, 3) := by decide +kernel
theorem dX8_many_44 : decode cX8_many 44 = .ok (.invokevirtual 183, 3) := by decide +kernel
theorem dX8_many_47 : decode cX8_many 47 = .ok (.iload_n 2, 1) := by decide +kernel
theorem dX8_many_48 : decode cX8_many 48 = .ok (.i2l, 1) := by decide +kernel
theorem dX8_many_49 : decode cX8_many 49 = .ok (.lmul, 1) := by decide +kernel
theorem dX8_many_50 : decode cX8_many 50 = .ok (.iload_n 3, 1) := by decide +kernel
theorem dX8_many_51 : decode cX8_many 51 = .ok (.aload_n 0, 1) := by decide +kernel
theorem dX8_many_52 : decode cX8_many 52 = .ok (.getfield 19, 3) := by decide +kernel
theorem dX8_many_55 : decode cX8_many 55 = .ok (.getfield 72, 3) := by decide +kernel
theorem dX8_many_58 : decode cX8_many 58 = .ok (.invokestatic 176, 3) := by decide +kernel
theorem dX8_many_61 : decode cX8_many 61 = .ok (.iload_n 1, 1) := by decide +kernel
theorem dX8_many_62 : decode cX8_many 62 = .ok (.i2l, 1) := by decide +kernel
theorem dX8_many_63 : decode cX8_many 63 = .ok (.lmul, 1) := by decide +kernel
theorem dX8_many_64 : decode cX8_many 64 = .ok (.lcmp, 1) := by decide +kernel
theorem dX8_many_65 : decode cX8_many 65 = .ok (.ifCond .lt 5, 3) := by decide +kernel
theorem dX8_many_68 : decode cX8_many 68 = .ok (.iload_n 3, 1) := by decide +kernel
theorem dX8_many_69 : decode cX8_many 69 = .ok (.ireturn, 1) := by decide +kernel
theorem dX8_many_70 : decode cX8_many 70 = .ok (.iinc 3 1, 3) := by decide +kernel
theorem dX8_many_73 : decode cX8_many 73 = .ok (.goto (-49), 3) := by decide +kernel
theorem dX8_many_76 : decode cX8_many 76 = .ok (.bipush (-6), 2) := by decide +kernel
theorem dX8_many_78 : decode cX8_many 78 = .ok (.ireturn, 1) := by decide +kernel
theorem dX8_shoot_0 : decode cX8_shoot 0 = .ok (.iload_n 1, 1) := by decide +kernel
theorem dX8_shoot_1 : decode cX8_shoot 1 = .ok (.iconst 0, 1) := by decide +kernel
theorem dX8_shoot_2 : decode cX8_shoot 2 = .ok (.sipush 9999, 3) := by decide +kernel
theorem dX8_shoot_5 : decode cX8_shoot 5 = .ok (.invokestatic 45, 3) := by decide +kernel
theorem dX8_shoot_8 : decode cX8_shoot 8 = .ok (.ifCond .eq 13, 3) := by decide +kernel
theorem dX8_shoot_11 : decode cX8_shoot 11 = .ok (.iload_n 2, 1) := by decide +kernel
theorem dX8_shoot_12 : decode cX8_shoot 12 = .ok (.iconst 1, 1) := by decide +kernel
theorem dX8_shoot_13 : decode cX8_shoot 13 = .ok (.bipush 30, 2) := by decide +kernel
theorem dX8_shoot_15 : decode cX8_shoot 15 = .ok (.invokestatic 45, 3) := by decide +kernel
theorem dX8_shoot_18 : decode cX8_shoot 18 = .ok (.ifCond .ne 6, 3) := by decide +kernel
theorem dX8_shoot_21 : decode cX8_shoot 21 = .ok (.bipush (-2), 2) := by decide +kernel
theorem dX8_shoot_23 : decode cX8_shoot 23 = .ok (.ireturn, 1) := by decide +kernel
theorem dX8_shoot_24 : decode cX8_shoot 24 = .ok (.iload_n 3, 1) := by decide +kernel
theorem dX8_shoot_25 : decode cX8_shoot 25 = .ok (.iconst 0, 1) := by decide +kernel
theorem dX8_shoot_26 : decode cX8_shoot 26 = .ok (.iconst 1, 1) := by decide +kernel
theorem dX8_shoot_27 : decode cX8_shoot 27 = .ok (.invokestatic 45, 3) := by decide +kernel
theorem dX8_shoot_30 : decode cX8_shoot 30 = .ok (.ifCond .ne 6, 3) := by decide +kernel
theorem dX8_shoot_33 : decode cX8_shoot 33 = .ok (.bipush (-2), 2) := by decide +kernel
theorem dX8_shoot_35 : decode cX8_shoot 35 = .ok (.ireturn, 1) := by decide +kernel
theorem dX8_shoot_36 : decode cX8_shoot 36 = .ok (.aload_n 0, 1) := by decide +kernel
theorem dX8_shoot_37 : decode cX8_shoot 37 = .ok (.getfield 19, 3) := by decide +kernel
theorem dX8_shoot_40 : decode cX8_shoot 40 = .ok (.getfield 158, 3) := by decide +kernel
theorem dX8_shoot_43 : decode cX8_shoot 43 = .ok (.iload_n 1, 1) := by decide +kernel
theorem dX8_shoot_44 : decode cX8_shoot 44 = .ok (.iload_n 2, 1) := by decide +kernel
