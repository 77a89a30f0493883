theorem dX4_init_0 : decode cX4_init 0 = .ok (.aload_n 0, 1) := by decide +kernel
theorem dX4_init_1 : decode cX4_init 1 = .ok (.invokespecial 1, 3) := by decide +kernel
theorem dX4_init_4 : decode cX4_init 4 = .ok (.aload_n 0, 1) := by decide +kernel
theorem dX4_init_5 : decode cX4_init 5 = .ok (.new 7, 3) := by decide +kernel
theorem dX4_init_8 : decode cX4_init 8 = .ok (.dup, 1) := by decide +kernel
theorem dX4_init_9 : decode cX4_init 9 = .ok (.invokespecial 9, 3) := by decide +kernel
theorem dX4_init_12 : decode cX4_init 12 = .ok (.putfield 10, 3) := by decide +kernel
theorem dX4_init_15 : decode cX4_init 15 = .ok (.aload_n 0, 1) := by decide +kernel
theorem dX4_init_16 : decode cX4_init 16 = .ok (.new 7, 3) := by decide +kernel
theorem dX4_init_19 : decode cX4_init 19 = .ok (.dup, 1) := by decide +kernel
theorem dX4_init_20 : decode cX4_init 20 = .ok (.invokespecial 9, 3) := by decide +kernel
theorem dX4_init_23 : decode cX4_init 23 = .ok (.putfield 16, 3) := by decide +kernel
theorem dX4_init_26 : decode cX4_init 26 = .ok (.aload_n 0, 1) := by decide +kernel
theorem dX4_init_27 : decode cX4_init 27 = .ok (.new 19, 3) := by decide +kernel
theorem dX4_init_30 : decode cX4_init 30 = .ok (.dup, 1) := by decide +kernel
theorem dX4_init_31 : decode cX4_init 31 = .ok (.invokespecial 21, 3) := by decide +kernel
theorem dX4_init_34 : decode cX4_init 34 = .ok (.putfield 22, 3) := by decide +kernel
theorem dX4_init_37 : decode cX4_init 37 = .ok (.aload_n 0, 1) := by decide +kernel
theorem dX4_init_38 : decode cX4_init 38 = .ok (.new 26, 3) := by decide +kernel
theorem dX4_init_41 : decode cX4_init 41 = .ok (.dup, 1) := by decide +kernel
theorem dX4_init_42 : decode cX4_init 42 = .ok (.invokespecial 28, 3) := by decide +kernel
theorem dX4_init_45 : decode cX4_init 45 = .ok (.putfield 29, 3) := by decide +kernel
theorem dX4_init_48 : decode cX4_init 48 = .ok (.aload_n 0, 1) := by decide +kernel
theorem dX4_init_49 : decode cX4_init 49 = .ok (.iconst 2, 1) := by decide +kernel
theorem dX4_init_50 : decode cX4_init 50 = .ok (.anewarray 7, 3) := by decide +kernel
theorem dX4_init_53 : decode cX4_init 53 = .ok (.putfield 33, 3) := by decide +kernel
theorem dX4_init_56 : decode cX4_init 56 = .ok (.return_, 1) := by decide +kernel
theorem dX4_set_0 : decode cX4_set 0 = .ok (.iload_n 1, 1) := by decide +kernel
theorem dX4_set_1 : decode cX4_set 1 = .ok (.ifCond .lt 27, 3) := by decide +kernel
theorem dX4_set_4 : decode cX4_set 4 = .ok (.iload_n 1, 1) := by decide +kernel
theorem dX4_set_5 : decode cX4_set 5 = .ok (.bipush 7, 2) := by decide +kernel
theorem dX4_set_7 : decode cX4_set 7 = .ok (.if_icmp .ge 21, 3) := by decide +kernel
theorem dX4_set_10 : decode cX4_set 10 = .ok (.iload_n 2, 1) := by decide +kernel
theorem dX4_set_11 : decode cX4_set 11 = .ok (.getstatic 37, 3) := by decide +kernel
theorem dX4_set_14 : decode cX4_set 14 = .ok (.iload_n 1, 1) := by decide +kernel
theorem dX4_set_15 : decode cX4_set 15 = .ok (.iaload, 1) := by decide +kernel
theorem dX4_set_16 : decode cX4_set 16 = .ok (.if_icmp .lt 12, 3) := by decide +kernel
theorem dX4_set_19 : decode cX4_set 19 = .ok (.iload_n 2, 1) := by decide +kernel
theorem dX4_set_20 : decode cX4_set 20 = .ok (.getstatic 41, 3) := by decide +kernel
theorem dX4_set_23 : decode cX4_set 23 = .ok (.iload_n 1, 1) := by decide +kernel
theorem dX4_set_24 : decode cX4_set 24 = .ok (.iaload, 1) := by decide +kernel
theorem dX4_set_25 : decode cX4_set 25 = .ok (.if_icmp .le 6, 3) := by decide +kernel
theorem dX4_set_28 : decode cX4_set 28 = .ok (.bipush (-2), 2) := by decide +kernel
theorem dX4_set_30 : decode cX4_set 30 = .ok (.ireturn, 1) := by decide +kernel
theorem dX4_set_31 : decode cX4_set 31 = .ok (.aload_n 0, 1) := by decide +kernel
theorem dX4_set_32 : decode cX4_set 32 = .ok (.getfield 29, 3) := by decide +kernel
theorem dX4_set_35 : decode cX4_set 35 = .ok (.aload_n 0, 1) := by decide +kernel
theorem dX4_set_36 : decode cX4_set 36 = .ok (.getfield 10, 3) := by decide +kernel
theorem dX4_set_39 : decode cX4_set 39 = .ok (.invokevirtual 44, 3) := by decide +kernel
theorem dX4_set_42 : decode cX4_set 42 = .ok (.aload_n 0, 1) := by decide +kernel
theorem dX4_set_43 : decode cX4_set 43 = .ok (.getfield 10, 3) := by decide +kernel
theorem dX4_set_46 : decode cX4_set 46 = .ok (.iload_n 1, 1) := by decide +kernel
theorem dX4_set_47 : decode cX4_set 47 = .ok (.iload_n 2, 1) := by decide +kernel
theorem dX4_set_48 : decode cX4_set 48 = .ok (.invokevirtual 48, 3) := by decide +kernel
theorem dX4_set_51 : decode cX4_set 51 = .ok (.ireturn, 1) := by decide +kernel
theorem dX4_sample_0 : decode cX4_sample 0 = .ok (.aload_n 0, 1) := by decide +kernel
theorem dX4_sample_1 : decode cX4_sample 1 = .ok (.iload_n 1, 1) := by decide +kernel
theorem dX4_sample_2 : decode cX4_sample 2 = .ok (.iload_n 2, 1) := by decide +kernel
theorem dX4_sample_3 : decode cX4_sample 3 = .ok (.iconst 1, 1) := by decide +kernel
theorem dX4_sample_4 : decode cX4_sample 4 = .ok (.invokevirtual 52, 3) := by decide +kernel
theorem dX4_sample_7 : decode cX4_sample 7 = .ok (.ireturn, 1) := by decide +kernel
theorem dX4_hold_0 : decode cX4_hold 0 = .ok (.iload_n 3, 1) := by decide +kernel
theorem dX4_hold_1 : decode cX4_hold 1 = .ok (.iconst 1, 1) := by decide +kernel
theorem dX4_hold_2 : decode cX4_hold 2 = .ok (.if_icmp .lt 10, 3) := by decide +kernel
theorem dX4_hold_5 : decode cX4_hold 5 = .ok (.iload_n 3, 1) := by decide +kernel
theorem dX4_hold_6 : decode cX4_hold 6 = .ok (.sipush 200, 3) := by decide +kernel
theorem dX4_hold_9 : decode cX4_hold 9 = .ok (.if_icmp .le 6, 3) := by decide +kernel
theorem dX4_hold_12 : decode cX4_hold 12 = .ok (.bipush (-2), 2) := by decide +kernel
theorem dX4_hold_14 : decode cX4_hold 14 = .ok (.ireturn, 1) := by decide +kernel
theorem dX4_hold_15 : decode cX4_hold 15 = .ok (.aload_n 0, 1) := by decide +kernel
theorem dX4_hold_16 : decode cX4_hold 16 = .ok (.iload_n 1, 1) := by decide +kernel
theorem dX4_hold_17 : decode cX4_hold 17 = .ok (.iload_n 2, 1) := by decide +kernel
theorem dX4_hold_18 : decode cX4_hold 18 = .ok (.iload_n 3, 1) := by decide +kernel
theorem dX4_hold_19 : decode cX4_hold 19 = .ok (.invokevirtual 52, 3) := by decide +kernel
theorem dX4_hold_22 : decode cX4_hold 22 = .ok (.ireturn, 1) := by decide +kernel
theorem dX4_takeAlike_0 : decode cX4_takeAlike 0 = .ok (.aload_n 0, 1) := by decide +kernel
theorem dX4_takeAlike_1 : decode cX4_takeAlike 1 = .ok (.getfield 10, 3) := by decide +kernel
theorem dX4_takeAlike_4 : decode cX4_takeAlike 4 = .ok (.iload_n 1, 1) := by decide +kernel
theorem dX4_takeAlike_5 : decode cX4_takeAlike 5 = .ok (.iload_n 2, 1) := by decide +kernel
theorem dX4_takeAlike_6 : decode cX4_takeAlike 6 = .ok (.iload_n 3, 1) := by decide +kernel
theorem dX4_takeAlike_7 : decode cX4_takeAlike 7 = .ok (.invokevirtual 56, 3) := by decide +kernel
theorem dX4_takeAlike_10 : decode cX4_takeAlike 10 = .ok (.istore 4, 2) := by decide +kernel
theorem dX4_takeAlike_12 : decode cX4_takeAlike 12 = .ok (.iload 4, 2) := by decide +kernel
theorem dX4_takeAlike_14 : decode cX4_takeAlike 14 = .ok (.ifCond .eq 6, 3) := by decide +kernel
theorem dX4_takeAlike_17 : decode cX4_takeAlike 17 = .ok (.iload 4, 2) := by decide +kernel
theorem dX4_takeAlike_19 : decode cX4_takeAlike 19 = .ok (.ireturn, 1) := by decide +kernel
theorem dX4_takeAlike_20 : decode cX4_takeAlike 20 = .ok (.aload_n 0, 1) := by decide +kernel
theorem dX4_takeAlike_21 : decode cX4_takeAlike 21 = .ok (.getfield 29, 3) := by decide +kernel
theorem dX4_takeAlike_24 : decode cX4_takeAlike 24 = .ok (.aload_n 0, 1) := by decide +kernel
theorem dX4_takeAlike_25 : decode cX4_takeAlike 25 = .ok (.getfield 10, 3) := by decide +kernel
theorem dX4_takeAlike_28 : decode cX4_takeAlike 28 = .ok (.invokevirtual 44, 3) := by decide +kernel
theorem dX4_takeAlike_31 : decode cX4_takeAlike 31 = .ok (.iconst 0, 1) := by decide +kernel
theorem dX4_takeAlike_32 : decode cX4_takeAlike 32 = .ok (.istore 5, 2) := by decide +kernel
theorem dX4_takeAlike_34 : decode cX4_takeAlike 34 = .ok (.iload 5, 2) := by decide +kernel
theorem dX4_takeAlike_36 : decode cX4_takeAlike 36 = .ok (.iload_n 3, 1) := by decide +kernel
theorem dX4_takeAlike_37 : decode cX4_takeAlike 37 = .ok (.if_icmp .ge 18, 3) := by decide +kernel
theorem dX4_takeAlike_40 : decode cX4_takeAlike 40 = .ok (.aload_n 0, 1) := by decide +kernel
theorem dX4_takeAlike_41 : decode cX4_takeAlike 41 = .ok (.getfield 10, 3) := by decide +kernel
theorem dX4_takeAlike_44 : decode cX4_takeAlike 44 = .ok (.iload_n 1, 1) := by decide +kernel
theorem dX4_takeAlike_45 : decode cX4_takeAlike 45 = .ok (.iload_n 2, 1) := by decide +kernel
theorem dX4_takeAlike_46 : decode cX4_takeAlike 46 = .ok (.invokevirtual 59, 3) := by decide +kernel
theorem dX4_takeAlike_49 : decode cX4_takeAlike 49 = .ok (.iinc 5 1, 3) := by decide +kernel
theorem dX4_takeAlike_52 : decode cX4_takeAlike 52 = .ok (.goto (-18), 3) := by decide +kernel
theorem dX4_takeAlike_55 : decode cX4_takeAlike 55 = .ok (.aload_n 0, 1) := by decide +kernel
theorem dX4_takeAlike_56 : decode cX4_takeAlike 56 = .ok (.getfield 10, 3) := by decide +kernel
theorem dX4_takeAlike_59 : decode cX4_takeAlike 59 = .ok (.invokevirtual 63, 3) := by decide +kernel
theorem dX4_takeAlike_62 : decode cX4_takeAlike 62 = .ok (.ireturn, 1) := by decide +kernel
theorem dX4_press_0 : decode cX4_press 0 = .ok (.aload_n 0, 1) := by decide +kernel
theorem dX4_press_1 : decode cX4_press 1 = .ok (.getfield 10, 3) := by decide +kernel
theorem dX4_press_4 : decode cX4_press 4 = .ok (.iload_n 1, 1) := by decide +kernel
theorem dX4_press_5 : decode cX4_press 5 = .ok (.invokevirtual 67, 3) := by decide +kernel
theorem dX4_press_8 : decode cX4_press 8 = .ok (.istore_n 2, 1) := by decide +kernel
theorem dX4_press_9 : decode cX4_press 9 = .ok (.iload_n 2, 1) := by decide +kernel
theorem dX4_press_10 : decode cX4_press 10 = .ok (.ifCond .eq 5, 3) := by decide +kernel
theorem dX4_press_13 : decode cX4_press 13 = .ok (.iload_n 2, 1) := by decide +kernel
theorem dX4_press_14 : decode cX4_press 14 = .ok (.ireturn, 1) := by decide +kernel
theorem dX4_press_15 : decode cX4_press 15 = .ok (.aload_n 0, 1) := by decide +kernel
theorem dX4_press_16 : decode cX4_press 16 = .ok (.getfield 29, 3) := by decide +kernel
theorem dX4_press_19 : decode cX4_press 19 = .ok (.aload_n 0, 1) := by decide +kernel
theorem dX4_press_20 : decode cX4_press 20 = .ok (.getfield 10, 3) := by decide +kernel
theorem dX4_press_23 : decode cX4_press 23 = .ok (.invokevirtual 44, 3) := by decide +kernel
theorem dX4_press_26 : decode cX4_press 26 = .ok (.aload_n 0, 1) := by decide +kernel
theorem dX4_press_27 : decode cX4_press 27 = .ok (.getfield 10, 3) := by decide +kernel
theorem dX4_press_30 : decode cX4_press 30 = .ok (.iload_n 1, 1) := by decide +kernel
theorem dX4_press_31 : decode cX4_press 31 = .ok (.invokevirtual 71, 3) := by decide +kernel
theorem dX4_press_34 : decode cX4_press 34 = .ok (.ireturn, 1) := by decide +kernel
theorem dX4_letUp_0 : decode cX4_letUp 0 = .ok (.aload_n 0, 1) := by decide +kernel
theorem dX4_letUp_1 : decode cX4_letUp 1 = .ok (.getfield 10, 3) := by decide +kernel
theorem dX4_letUp_4 : decode cX4_letUp 4 = .ok (.iload_n 1, 1) := by decide +kernel
theorem dX4_letUp_5 : decode cX4_letUp 5 = .ok (.invokevirtual 74, 3) := by decide +kernel
theorem dX4_letUp_8 : decode cX4_letUp 8 = .ok (.istore_n 2, 1) := by decide +kernel
theorem dX4_letUp_9 : decode cX4_letUp 9 = .ok (.iload_n 2, 1) := by decide +kernel
theorem dX4_letUp_10 : decode cX4_letUp 10 = .ok (.ifCond .eq 5, 3) := by decide +kernel
theorem dX4_letUp_13 : decode cX4_letUp 13 = .ok (.iload_n 2, 1) := by decide +kernel
theorem dX4_letUp_14 : decode cX4_letUp 14 = .ok (.ireturn, 1) := by decide +kernel
theorem dX4_letUp_15 : decode cX4_letUp 15 = .ok (.aload_n 0, 1) := by decide +kernel
theorem dX4_letUp_16 : decode cX4_letUp 16 = .ok (.getfield 29, 3) := by decide +kernel
theorem dX4_letUp_19 : decode cX4_letUp 19 = .ok (.aload_n 0, 1) := by decide +kernel
theorem dX4_letUp_20 : decode cX4_letUp 20 = .ok (.getfield 10, 3) := by decide +kernel
theorem dX4_letUp_23 : decode cX4_letUp 23 = .ok (.invokevirtual 44, 3) := by decide +kernel
theorem dX4_letUp_26 : decode cX4_letUp 26 = .ok (.aload_n 0, 1) := by decide +kernel
theorem dX4_letUp_27 : decode cX4_letUp 27 = .ok (.getfield 10, 3) := by decide +kernel
theorem dX4_letUp_30 : decode cX4_letUp 30 = .ok (.iload_n 1, 1) := by decide +kernel
theorem dX4_letUp_31 : decode cX4_letUp 31 = .ok (.invokevirtual 77, 3) := by decide +kernel
theorem dX4_letUp_34 : decode cX4_letUp 34 = .ok (.ireturn, 1) := by decide +kernel
theorem dX4_reset_0 : decode cX4_reset 0 = .ok (.aload_n 0, 1) := by decide +kernel
theorem dX4_reset_1 : decode cX4_reset 1 = .ok (.getfield 29, 3) := by decide +kernel
theorem dX4_reset_4 : decode cX4_reset 4 = .ok (.aload_n 0, 1) := by decide +kernel
theorem dX4_reset_5 : decode cX4_reset 5 = .ok (.getfield 10, 3) := by decide +kernel
theorem dX4_reset_8 : decode cX4_reset 8 = .ok (.invokevirtual 44, 3) := by decide +kernel
theorem dX4_reset_11 : decode cX4_reset 11 = .ok (.aload_n 0, 1) := by decide +kernel
theorem dX4_reset_12 : decode cX4_reset 12 = .ok (.getfield 10, 3) := by decide +kernel
theorem dX4_reset_15 : decode cX4_reset 15 = .ok (.invokevirtual 80, 3) := by decide +kernel
theorem dX4_reset_18 : decode cX4_reset 18 = .ok (.ireturn, 1) := by decide +kernel
theorem dX4_of_0 : decode cX4_of 0 = .ok (.iload_n 1, 1) := by decide +kernel
theorem dX4_of_1 : decode cX4_of 1 = .ok (.ifCond .eq 10, 3) := by decide +kernel
theorem dX4_of_4 : decode cX4_of 4 = .ok (.iload_n 1, 1) := by decide +kernel
theorem dX4_of_5 : decode cX4_of 5 = .ok (.iconst 1, 1) := by decide +kernel
theorem dX4_of_6 : decode cX4_of 6 = .ok (.if_icmp .eq 5, 3) := by decide +kernel
theorem dX4_of_9 : decode cX4_of 9 = .ok (.iconst (-1), 1) := by decide +kernel
theorem dX4_of_10 : decode cX4_of 10 = .ok (.ireturn, 1) := by decide +kernel
theorem dX4_of_11 : decode cX4_of 11 = .ok (.iload_n 1, 1) := by decide +kernel
theorem dX4_of_12 : decode cX4_of 12 = .ok (.ifCond .ne 14, 3) := by decide +kernel
theorem dX4_of_15 : decode cX4_of 15 = .ok (.aload_n 0, 1) := by decide +kernel
theorem dX4_of_16 : decode cX4_of 16 = .ok (.getfield 10, 3) := by decide +kernel
theorem dX4_of_19 : decode cX4_of 19 = .ok (.iload_n 2, 1) := by decide +kernel
theorem dX4_of_20 : decode cX4_of 20 = .ok (.invokevirtual 83, 3) := by decide +kernel
theorem dX4_of_23 : decode cX4_of 23 = .ok (.goto 11, 3) := by decide +kernel
theorem dX4_of_26 : decode cX4_of 26 = .ok (.aload_n 0, 1) := by decide +kernel
theorem dX4_of_27 : decode cX4_of 27 = .ok (.getfield 10, 3) := by decide +kernel
theorem dX4_of_30 : decode cX4_of 30 = .ok (.iload_n 2, 1) := by decide +kernel
theorem dX4_of_31 : decode cX4_of 31 = .ok (.invokevirtual 86, 3) := by decide +kernel
theorem dX4_of_34 : decode cX4_of 34 = .ok (.ireturn, 1) := by decide +kernel
theorem dX4_direction_0 : decode cX4_direction 0 = .ok (.aload_n 0, 1) := by decide +kernel
theorem dX4_direction_1 : decode cX4_direction 1 = .ok (.getfield 10, 3) := by decide +kernel
theorem dX4_direction_4 : decode cX4_direction 4 = .ok (.getfield 89, 3) := by decide +kernel
theorem dX4_direction_7 : decode cX4_direction 7 = .ok (.iload_n 1, 1) := by decide +kernel
theorem dX4_direction_8 : decode cX4_direction 8 = .ok (.iload_n 2, 1) := by decide +kernel
theorem dX4_direction_9 : decode cX4_direction 9 = .ok (.invokevirtual 93, 3) := by decide +kernel
theorem dX4_direction_12 : decode cX4_direction 12 = .ok (.ireturn, 1) := by decide +kernel
theorem dX4_count_0 : decode cX4_count 0 = .ok (.iload_n 1, 1) := by decide +kernel
theorem dX4_count_1 : decode cX4_count 1 = .ok (.lookupswitch 43 #[(17, 27), (18, 35)], 27) := by decide +kernel
theorem dX4_count_28 : decode cX4_count 28 = .ok (.aload_n 0, 1) := by decide +kernel
theorem dX4_count_29 : decode cX4_count 29 = .ok (.getfield 22, 3) := by decide +kernel
theorem dX4_count_32 : decode cX4_count 32 = .ok (.getfield 98, 3) := by decide +kernel
theorem dX4_count_35 : decode cX4_count 35 = .ok (.ireturn, 1) := by decide +kernel
theorem dX4_count_36 : decode cX4_count 36 = .ok (.aload_n 0, 1) := by decide +kernel
theorem dX4_count_37 : decode cX4_count 37 = .ok (.getfield 29, 3) := by decide +kernel
theorem dX4_count_40 : decode cX4_count 40 = .ok (.getfield 102, 3) := by decide +kernel
theorem dX4_count_43 : decode cX4_count 43 = .ok (.ireturn, 1) := by decide +kernel
theorem dX4_count_44 : decode cX4_count 44 = .ok (.aload_n 0, 1) := by decide +kernel
theorem dX4_count_45 : decode cX4_count 45 = .ok (.getfield 10, 3) := by decide +kernel
theorem dX4_count_48 : decode cX4_count 48 = .ok (.iload_n 1, 1) := by decide +kernel
theorem dX4_count_49 : decode cX4_count 49 = .ok (.invokevirtual 105, 3) := by decide +kernel
theorem dX4_count_52 : decode cX4_count 52 = .ok (.ireturn, 1) := by decide +kernel
theorem dX4_wouldTell_0 : decode cX4_wouldTell 0 = .ok (.iload_n 1, 1) := by decide +kernel
theorem dX4_wouldTell_1 : decode cX4_wouldTell 1 = .ok (.iload_n 2, 1) := by decide +kernel
theorem dX4_wouldTell_2 : decode cX4_wouldTell 2 = .ok (.invokestatic 108, 3) := by decide +kernel
theorem dX4_wouldTell_5 : decode cX4_wouldTell 5 = .ok (.ifCond .eq 15, 3) := by decide +kernel
theorem dX4_wouldTell_8 : decode cX4_wouldTell 8 = .ok (.aload_n 0, 1) := by decide +kernel
theorem dX4_wouldTell_9 : decode cX4_wouldTell 9 = .ok (.getfield 10, 3) := by decide +kernel
theorem dX4_wouldTell_12 : decode cX4_wouldTell 12 = .ok (.iload_n 1, 1) := by decide +kernel
theorem dX4_wouldTell_13 : decode cX4_wouldTell 13 = .ok (.iload_n 2, 1) := by decide +kernel
theorem dX4_wouldTell_14 : decode cX4_wouldTell 14 = .ok (.invokevirtual 112, 3) := by decide +kernel
theorem dX4_wouldTell_17 : decode cX4_wouldTell 17 = .ok (.goto 5, 3) := by decide +kernel
theorem dX4_wouldTell_20 : decode cX4_wouldTell 20 = .ok (.bipush (-2), 2) := by decide +kernel
theorem dX4_wouldTell_22 : decode cX4_wouldTell 22 = .ok (.ireturn, 1) := by decide +kernel
theorem dX4_learnedIn_0 : decode cX4_learnedIn 0 = .ok (.iload_n 1, 1) := by decide +kernel
theorem dX4_learnedIn_1 : decode cX4_learnedIn 1 = .ok (.iload_n 2, 1) := by decide +kernel
theorem dX4_learnedIn_2 : decode cX4_learnedIn 2 = .ok (.invokestatic 108, 3) := by decide +kernel
theorem dX4_learnedIn_5 : decode cX4_learnedIn 5 = .ok (.ifCond .ne 6, 3) := by decide +kernel
theorem dX4_learnedIn_8 : decode cX4_learnedIn 8 = .ok (.bipush (-2), 2) := by decide +kernel
theorem dX4_learnedIn_10 : decode cX4_learnedIn 10 = .ok (.ireturn, 1) := by decide +kernel
theorem dX4_learnedIn_11 : decode cX4_learnedIn 11 = .ok (.aload_n 0, 1) := by decide +kernel
theorem dX4_learnedIn_12 : decode cX4_learnedIn 12 = .ok (.getfield 16, 3) := by decide +kernel
theorem dX4_learnedIn_15 : decode cX4_learnedIn 15 = .ok (.aload_n 0, 1) := by decide +kernel
theorem dX4_learnedIn_16 : decode cX4_learnedIn 16 = .ok (.getfield 10, 3) := by decide +kernel
theorem dX4_learnedIn_19 : decode cX4_learnedIn 19 = .ok (.invokevirtual 115, 3) := by decide +kernel
theorem dX4_learnedIn_22 : decode cX4_learnedIn 22 = .ok (.iconst 0, 1) := by decide +kernel
theorem dX4_learnedIn_23 : decode cX4_learnedIn 23 = .ok (.istore_n 3, 1) := by decide +kernel
theorem dX4_learnedIn_24 : decode cX4_learnedIn 24 = .ok (.iload_n 3, 1) := by decide +kernel
theorem dX4_learnedIn_25 : decode cX4_learnedIn 25 = .ok (.sipush 500, 3) := by decide +kernel
theorem dX4_learnedIn_28 : decode cX4_learnedIn 28 = .ok (.if_icmp .gt 32, 3) := by decide +kernel
theorem dX4_learnedIn_31 : decode cX4_learnedIn 31 = .ok (.aload_n 0, 1) := by decide +kernel
theorem dX4_learnedIn_32 : decode cX4_learnedIn 32 = .ok (.getfield 16, 3) := by decide +kernel
theorem dX4_learnedIn_35 : decode cX4_learnedIn 35 = .ok (.iload_n 1, 1) := by decide +kernel
theorem dX4_learnedIn_36 : decode cX4_learnedIn 36 = .ok (.iload_n 2, 1) := by decide +kernel
theorem dX4_learnedIn_37 : decode cX4_learnedIn 37 = .ok (.invokevirtual 118, 3) := by decide +kernel
theorem dX4_learnedIn_40 : decode cX4_learnedIn 40 = .ok (.ifCond .eq 5, 3) := by decide +kernel
theorem dX4_learnedIn_43 : decode cX4_learnedIn 43 = .ok (.iload_n 3, 1) := by decide +kernel
theorem dX4_learnedIn_44 : decode cX4_learnedIn 44 = .ok (.ireturn, 1) := by decide +kernel
theorem dX4_learnedIn_45 : decode cX4_learnedIn 45 = .ok (.aload_n 0, 1) := by decide +kernel
theorem dX4_learnedIn_46 : decode cX4_learnedIn 46 = .ok (.getfield 16, 3) := by decide +kernel
theorem dX4_learnedIn_49 : decode cX4_learnedIn 49 = .ok (.iload_n 1, 1) := by decide +kernel
theorem dX4_learnedIn_50 : decode cX4_learnedIn 50 = .ok (.iload_n 2, 1) := by decide +kernel
theorem dX4_learnedIn_51 : decode cX4_learnedIn 51 = .ok (.invokevirtual 59, 3) := by decide +kernel
theorem dX4_learnedIn_54 : decode cX4_learnedIn 54 = .ok (.iinc 3 1, 3) := by decide +kernel
theorem dX4_learnedIn_57 : decode cX4_learnedIn 57 = .ok (.goto (-33), 3) := by decide +kernel
theorem dX4_learnedIn_60 : decode cX4_learnedIn 60 = .ok (.bipush (-6), 2) := by decide +kernel
theorem dX4_learnedIn_62 : decode cX4_learnedIn 62 = .ok (.ireturn, 1) := by decide +kernel
theorem dX4_edge_0 : decode cX4_edge 0 = .ok (.iload_n 1, 1) := by decide +kernel
theorem dX4_edge_1 : decode cX4_edge 1 = .ok (.ifCond .eq 10, 3) := by decide +kernel
theorem dX4_edge_4 : decode cX4_edge 4 = .ok (.iload_n 1, 1) := by decide +kernel
theorem dX4_edge_5 : decode cX4_edge 5 = .ok (.iconst 1, 1) := by decide +kernel
theorem dX4_edge_6 : decode cX4_edge 6 = .ok (.if_icmp .eq 5, 3) := by decide +kernel
theorem dX4_edge_9 : decode cX4_edge 9 = .ok (.iconst (-1), 1) := by decide +kernel
theorem dX4_edge_10 : decode cX4_edge 10 = .ok (.ireturn, 1) := by decide +kernel
theorem dX4_edge_11 : decode cX4_edge 11 = .ok (.iload_n 2, 1) := by decide +kernel
theorem dX4_edge_12 : decode cX4_edge 12 = .ok (.ifCond .eq 11, 3) := by decide +kernel
theorem dX4_edge_15 : decode cX4_edge 15 = .ok (.iload_n 2, 1) := by decide +kernel
theorem dX4_edge_16 : decode cX4_edge 16 = .ok (.iconst 1, 1) := by decide +kernel
theorem dX4_edge_17 : decode cX4_edge 17 = .ok (.if_icmp .eq 6, 3) := by decide +kernel
theorem dX4_edge_20 : decode cX4_edge 20 = .ok (.bipush (-2), 2) := by decide +kernel
theorem dX4_edge_22 : decode cX4_edge 22 = .ok (.ireturn, 1) := by decide +kernel
theorem dX4_edge_23 : decode cX4_edge 23 = .ok (.iload_n 2, 1) := by decide +kernel
theorem dX4_edge_24 : decode cX4_edge 24 = .ok (.iconst 1, 1) := by decide +kernel
theorem dX4_edge_25 : decode cX4_edge 25 = .ok (.if_icmp .ne 7, 3) := by decide +kernel
theorem dX4_edge_28 : decode cX4_edge 28 = .ok (.iconst 1, 1) := by decide +kernel
theorem dX4_edge_29 : decode cX4_edge 29 = .ok (.goto 4, 3) := by decide +kernel
theorem dX4_edge_32 : decode cX4_edge 32 = .ok (.iconst (-1), 1) := by decide +kernel
theorem dX4_edge_33 : decode cX4_edge 33 = .ok (.istore_n 3, 1) := by decide +kernel
theorem dX4_edge_34 : decode cX4_edge 34 = .ok (.iconst 1, 1) := by decide +kernel
theorem dX4_edge_35 : decode cX4_edge 35 = .ok (.istore 4, 2) := by decide +kernel
theorem dX4_edge_37 : decode cX4_edge 37 = .ok (.iload 4, 2) := by decide +kernel
theorem dX4_edge_39 : decode cX4_edge 39 = .ok (.sipush 255, 3) := by decide +kernel
theorem dX4_edge_42 : decode cX4_edge 42 = .ok (.if_icmp .gt 86, 3) := by decide +kernel
theorem dX4_edge_45 : decode cX4_edge 45 = .ok (.aload_n 0, 1) := by decide +kernel
theorem dX4_edge_46 : decode cX4_edge 46 = .ok (.getfield 10, 3) := by decide +kernel
theorem dX4_edge_49 : decode cX4_edge 49 = .ok (.invokevirtual 121, 3) := by decide +kernel
theorem dX4_edge_52 : decode cX4_edge 52 = .ok (.iload_n 1, 1) := by decide +kernel
theorem dX4_edge_53 : decode cX4_edge 53 = .ok (.ifCond .ne 10, 3) := by decide +kernel
theorem dX4_edge_56 : decode cX4_edge 56 = .ok (.iload_n 3, 1) := by decide +kernel
theorem dX4_edge_57 : decode cX4_edge 57 = .ok (.iload 4, 2) := by decide +kernel
theorem dX4_edge_59 : decode cX4_edge 59 = .ok (.imul, 1) := by decide +kernel
theorem dX4_edge_60 : decode cX4_edge 60 = .ok (.goto 4, 3) := by decide +kernel
theorem dX4_edge_63 : decode cX4_edge 63 = .ok (.iconst 0, 1) := by decide +kernel
theorem dX4_edge_64 : decode cX4_edge 64 = .ok (.iadd, 1) := by decide +kernel
theorem dX4_edge_65 : decode cX4_edge 65 = .ok (.istore 5, 2) := by decide +kernel
theorem dX4_edge_67 : decode cX4_edge 67 = .ok (.aload_n 0, 1) := by decide +kernel
theorem dX4_edge_68 : decode cX4_edge 68 = .ok (.getfield 10, 3) := by decide +kernel
theorem dX4_edge_71 : decode cX4_edge 71 = .ok (.invokevirtual 124, 3) := by decide +kernel
theorem dX4_edge_74 : decode cX4_edge 74 = .ok (.iload_n 1, 1) := by decide +kernel
theorem dX4_edge_75 : decode cX4_edge 75 = .ok (.iconst 1, 1) := by decide +kernel
theorem dX4_edge_76 : decode cX4_edge 76 = .ok (.if_icmp .ne 10, 3) := by decide +kernel
theorem dX4_edge_79 : decode cX4_edge 79 = .ok (.iload_n 3, 1) := by decide +kernel
theorem dX4_edge_80 : decode cX4_edge 80 = .ok (.iload 4, 2) := by decide +kernel
theorem dX4_edge_82 : decode cX4_edge 82 = .ok (.imul, 1) := by decide +kernel
theorem dX4_edge_83 : decode cX4_edge 83 = .ok (.goto 4, 3) := by decide +kernel
theorem dX4_edge_86 : decode cX4_edge 86 = .ok (.iconst 0, 1) := by decide +kernel
theorem dX4_edge_87 : decode cX4_edge 87 = .ok (.iadd, 1) := by decide +kernel
theorem dX4_edge_88 : decode cX4_edge 88 = .ok (.istore 6, 2) := by decide +kernel
theorem dX4_edge_90 : decode cX4_edge 90 = .ok (.iload 5, 2) := by decide +kernel
theorem dX4_edge_92 : decode cX4_edge 92 = .ok (.iload 6, 2) := by decide +kernel
theorem dX4_edge_94 : decode cX4_edge 94 = .ok (.invokestatic 108, 3) := by decide +kernel
theorem dX4_edge_97 : decode cX4_edge 97 = .ok (.ifCond .eq 25, 3) := by decide +kernel
theorem dX4_edge_100 : decode cX4_edge 100 = .ok (.aload_n 0, 1) := by decide +kernel
theorem dX4_edge_101 : decode cX4_edge 101 = .ok (.getfield 10, 3) := by decide +kernel
theorem dX4_edge_104 : decode cX4_edge 104 = .ok (.iload 5, 2) := by decide +kernel
theorem dX4_edge_106 : decode cX4_edge 106 = .ok (.iload 6, 2) := by decide +kernel
theorem dX4_edge_108 : decode cX4_edge 108 = .ok (.invokevirtual 112, 3) := by decide +kernel
theorem dX4_edge_111 : decode cX4_edge 111 = .ok (.iconst 0, 1) := by decide +kernel
theorem dX4_edge_112 : decode cX4_edge 112 = .ok (.iconst 0, 1) := by decide +kernel
theorem dX4_edge_113 : decode cX4_edge 113 = .ok (.invokestatic 127, 3) := by decide +kernel
theorem dX4_edge_116 : decode cX4_edge 116 = .ok (.if_icmp .eq 6, 3) := by decide +kernel
theorem dX4_edge_119 : decode cX4_edge 119 = .ok (.iload 4, 2) := by decide +kernel
theorem dX4_edge_121 : decode cX4_edge 121 = .ok (.ireturn, 1) := by decide +kernel
theorem dX4_edge_122 : decode cX4_edge 122 = .ok (.iinc 4 1, 3) := by decide +kernel
theorem dX4_edge_125 : decode cX4_edge 125 = .ok (.goto (-88), 3) := by decide +kernel
theorem dX4_edge_128 : decode cX4_edge 128 = .ok (.bipush (-6), 2) := by decide +kernel
theorem dX4_edge_130 : decode cX4_edge 130 = .ok (.ireturn, 1) := by decide +kernel
theorem dX4_driftsIn_0 : decode cX4_driftsIn 0 = .ok (.iload_n 1, 1) := by decide +kernel
theorem dX4_driftsIn_1 : decode cX4_driftsIn 1 = .ok (.iload_n 2, 1) := by decide +kernel
theorem dX4_driftsIn_2 : decode cX4_driftsIn 2 = .ok (.invokestatic 108, 3) := by decide +kernel
theorem dX4_driftsIn_5 : decode cX4_driftsIn 5 = .ok (.ifCond .ne 6, 3) := by decide +kernel
theorem dX4_driftsIn_8 : decode cX4_driftsIn 8 = .ok (.bipush (-2), 2) := by decide +kernel
theorem dX4_driftsIn_10 : decode cX4_driftsIn 10 = .ok (.ireturn, 1) := by decide +kernel
theorem dX4_driftsIn_11 : decode cX4_driftsIn 11 = .ok (.aload_n 0, 1) := by decide +kernel
theorem dX4_driftsIn_12 : decode cX4_driftsIn 12 = .ok (.getfield 16, 3) := by decide +kernel
theorem dX4_driftsIn_15 : decode cX4_driftsIn 15 = .ok (.aload_n 0, 1) := by decide +kernel
theorem dX4_driftsIn_16 : decode cX4_driftsIn 16 = .ok (.getfield 10, 3) := by decide +kernel
theorem dX4_driftsIn_19 : decode cX4_driftsIn 19 = .ok (.invokevirtual 115, 3) := by decide +kernel
theorem dX4_driftsIn_22 : decode cX4_driftsIn 22 = .ok (.iconst 1, 1) := by decide +kernel
theorem dX4_driftsIn_23 : decode cX4_driftsIn 23 = .ok (.istore_n 3, 1) := by decide +kernel
theorem dX4_driftsIn_24 : decode cX4_driftsIn 24 = .ok (.iload_n 3, 1) := by decide +kernel
theorem dX4_driftsIn_25 : decode cX4_driftsIn 25 = .ok (.sipush 200, 3) := by decide +kernel
theorem dX4_driftsIn_28 : decode cX4_driftsIn 28 = .ok (.if_icmp .gt 32, 3) := by decide +kernel
theorem dX4_driftsIn_31 : decode cX4_driftsIn 31 = .ok (.aload_n 0, 1) := by decide +kernel
theorem dX4_driftsIn_32 : decode cX4_driftsIn 32 = .ok (.getfield 16, 3) := by decide +kernel
theorem dX4_driftsIn_35 : decode cX4_driftsIn 35 = .ok (.iload_n 1, 1) := by decide +kernel
theorem dX4_driftsIn_36 : decode cX4_driftsIn 36 = .ok (.iload_n 2, 1) := by decide +kernel
theorem dX4_driftsIn_37 : decode cX4_driftsIn 37 = .ok (.invokevirtual 130, 3) := by decide +kernel
theorem dX4_driftsIn_40 : decode cX4_driftsIn 40 = .ok (.ifCond .eq 5, 3) := by decide +kernel
theorem dX4_driftsIn_43 : decode cX4_driftsIn 43 = .ok (.iload_n 3, 1) := by decide +kernel
theorem dX4_driftsIn_44 : decode cX4_driftsIn 44 = .ok (.ireturn, 1) := by decide +kernel
theorem dX4_driftsIn_45 : decode cX4_driftsIn 45 = .ok (.aload_n 0, 1) := by decide +kernel
theorem dX4_driftsIn_46 : decode cX4_driftsIn 46 = .ok (.getfield 16, 3) := by decide +kernel
theorem dX4_driftsIn_49 : decode cX4_driftsIn 49 = .ok (.iload_n 1, 1) := by decide +kernel
theorem dX4_driftsIn_50 : decode cX4_driftsIn 50 = .ok (.iload_n 2, 1) := by decide +kernel
theorem dX4_driftsIn_51 : decode cX4_driftsIn 51 = .ok (.invokevirtual 59, 3) := by decide +kernel
theorem dX4_driftsIn_54 : decode cX4_driftsIn 54 = .ok (.iinc 3 1, 3) := by decide +kernel
theorem dX4_driftsIn_57 : decode cX4_driftsIn 57 = .ok (.goto (-33), 3) := by decide +kernel
theorem dX4_driftsIn_60 : decode cX4_driftsIn 60 = .ok (.bipush (-6), 2) := by decide +kernel
theorem dX4_driftsIn_62 : decode cX4_driftsIn 62 = .ok (.ireturn, 1) := by decide +kernel
theorem dX4_undo_0 : decode cX4_undo 0 = .ok (.aload_n 0, 1) := by decide +kernel
theorem dX4_undo_1 : decode cX4_undo 1 = .ok (.getfield 29, 3) := by decide +kernel
theorem dX4_undo_4 : decode cX4_undo 4 = .ok (.aload_n 0, 1) := by decide +kernel
theorem dX4_undo_5 : decode cX4_undo 5 = .ok (.getfield 10, 3) := by decide +kernel
theorem dX4_undo_8 : decode cX4_undo 8 = .ok (.invokevirtual 176, 3) := by decide +kernel
theorem dX4_undo_11 : decode cX4_undo 11 = .ok (.ireturn, 1) := by decide +kernel
theorem dX4_save_0 : decode cX4_save 0 = .ok (.iload_n 1, 1) := by decide +kernel
theorem dX4_save_1 : decode cX4_save 1 = .ok (.ifCond .lt 12, 3) := by decide +kernel
theorem dX4_save_4 : decode cX4_save 4 = .ok (.iload_n 1, 1) := by decide +kernel
theorem dX4_save_5 : decode cX4_save 5 = .ok (.aload_n 0, 1) := by decide +kernel
theorem dX4_save_6 : decode cX4_save 6 = .ok (.getfield 33, 3) := by decide +kernel
theorem dX4_save_9 : decode cX4_save 9 = .ok (.arraylength, 1) := by decide +kernel
theorem dX4_save_10 : decode cX4_save 10 = .ok (.if_icmp .lt 6, 3) := by decide +kernel
theorem dX4_save_13 : decode cX4_save 13 = .ok (.bipush (-2), 2) := by decide +kernel
theorem dX4_save_15 : decode cX4_save 15 = .ok (.ireturn, 1) := by decide +kernel
theorem dX4_save_16 : decode cX4_save 16 = .ok (.aload_n 0, 1) := by decide +kernel
theorem dX4_save_17 : decode cX4_save 17 = .ok (.getfield 33, 3) := by decide +kernel
theorem dX4_save_20 : decode cX4_save 20 = .ok (.iload_n 1, 1) := by decide +kernel
theorem dX4_save_21 : decode cX4_save 21 = .ok (.aaload, 1) := by decide +kernel
theorem dX4_save_22 : decode cX4_save 22 = .ok (.astore_n 2, 1) := by decide +kernel
theorem dX4_save_23 : decode cX4_save 23 = .ok (.aload_n 2, 1) := by decide +kernel
theorem dX4_save_24 : decode cX4_save 24 = .ok (.ifnonnull 18, 3) := by decide +kernel
theorem dX4_save_27 : decode cX4_save 27 = .ok (.new 7, 3) := by decide +kernel
theorem dX4_save_30 : decode cX4_save 30 = .ok (.dup, 1) := by decide +kernel
theorem dX4_save_31 : decode cX4_save 31 = .ok (.invokespecial 9, 3) := by decide +kernel
theorem dX4_save_34 : decode cX4_save 34 = .ok (.astore_n 2, 1) := by decide +kernel
theorem dX4_save_35 : decode cX4_save 35 = .ok (.aload_n 0, 1) := by decide +kernel
theorem dX4_save_36 : decode cX4_save 36 = .ok (.getfield 33, 3) := by decide +kernel
theorem dX4_save_39 : decode cX4_save 39 = .ok (.iload_n 1, 1) := by decide +kernel
theorem dX4_save_40 : decode cX4_save 40 = .ok (.aload_n 2, 1) := by decide +kernel
theorem dX4_save_41 : decode cX4_save 41 = .ok (.aastore, 1) := by decide +kernel
theorem dX4_save_42 : decode cX4_save 42 = .ok (.aload_n 2, 1) := by decide +kernel
theorem dX4_save_43 : decode cX4_save 43 = .ok (.aload_n 0, 1) := by decide +kernel
theorem dX4_save_44 : decode cX4_save 44 = .ok (.getfield 10, 3) := by decide +kernel
theorem dX4_save_47 : decode cX4_save 47 = .ok (.invokevirtual 115, 3) := by decide +kernel
theorem dX4_save_50 : decode cX4_save 50 = .ok (.aload_n 0, 1) := by decide +kernel
theorem dX4_save_51 : decode cX4_save 51 = .ok (.getfield 10, 3) := by decide +kernel
theorem dX4_save_54 : decode cX4_save 54 = .ok (.getfield 180, 3) := by decide +kernel
theorem dX4_save_57 : decode cX4_save 57 = .ok (.ireturn, 1) := by decide +kernel
theorem dX4_restore_0 : decode cX4_restore 0 = .ok (.iload_n 1, 1) := by decide +kernel
theorem dX4_restore_1 : decode cX4_restore 1 = .ok (.ifCond .lt 12, 3) := by decide +kernel
theorem dX4_restore_4 : decode cX4_restore 4 = .ok (.iload_n 1, 1) := by decide +kernel
theorem dX4_restore_5 : decode cX4_restore 5 = .ok (.aload_n 0, 1) := by decide +kernel
theorem dX4_restore_6 : decode cX4_restore 6 = .ok (.getfield 33, 3) := by decide +kernel
theorem dX4_restore_9 : decode cX4_restore 9 = .ok (.arraylength, 1) := by decide +kernel
theorem dX4_restore_10 : decode cX4_restore 10 = .ok (.if_icmp .lt 6, 3) := by decide +kernel
theorem dX4_restore_13 : decode cX4_restore 13 = .ok (.bipush (-2), 2) := by decide +kernel
theorem dX4_restore_15 : decode cX4_restore 15 = .ok (.ireturn, 1) := by decide +kernel
theorem dX4_restore_16 : decode cX4_restore 16 = .ok (.aload_n 0, 1) := by decide +kernel
theorem dX4_restore_17 : decode cX4_restore 17 = .ok (.getfield 33, 3) := by decide +kernel
theorem dX4_restore_20 : decode cX4_restore 20 = .ok (.iload_n 1, 1) := by decide +kernel
theorem dX4_restore_21 : decode cX4_restore 21 = .ok (.aaload, 1) := by decide +kernel
theorem dX4_restore_22 : decode cX4_restore 22 = .ok (.astore_n 2, 1) := by decide +kernel
theorem dX4_restore_23 : decode cX4_restore 23 = .ok (.aload_n 2, 1) := by decide +kernel
theorem dX4_restore_24 : decode cX4_restore 24 = .ok (.ifnonnull 6, 3) := by decide +kernel
theorem dX4_restore_27 : decode cX4_restore 27 = .ok (.bipush (-5), 2) := by decide +kernel
theorem dX4_restore_29 : decode cX4_restore 29 = .ok (.ireturn, 1) := by decide +kernel
theorem dX4_restore_30 : decode cX4_restore 30 = .ok (.aload_n 0, 1) := by decide +kernel
theorem dX4_restore_31 : decode cX4_restore 31 = .ok (.getfield 29, 3) := by decide +kernel
theorem dX4_restore_34 : decode cX4_restore 34 = .ok (.aload_n 0, 1) := by decide +kernel
theorem dX4_restore_35 : decode cX4_restore 35 = .ok (.getfield 10, 3) := by decide +kernel
theorem dX4_restore_38 : decode cX4_restore 38 = .ok (.invokevirtual 44, 3) := by decide +kernel
theorem dX4_restore_41 : decode cX4_restore 41 = .ok (.aload_n 0, 1) := by decide +kernel
theorem dX4_restore_42 : decode cX4_restore 42 = .ok (.getfield 10, 3) := by decide +kernel
theorem dX4_restore_45 : decode cX4_restore 45 = .ok (.aload_n 2, 1) := by decide +kernel
theorem dX4_restore_46 : decode cX4_restore 46 = .ok (.invokevirtual 115, 3) := by decide +kernel
theorem dX4_restore_49 : decode cX4_restore 49 = .ok (.aload_n 0, 1) := by decide +kernel
theorem dX4_restore_50 : decode cX4_restore 50 = .ok (.getfield 10, 3) := by decide +kernel
theorem dX4_restore_53 : decode cX4_restore 53 = .ok (.getfield 180, 3) := by decide +kernel
theorem dX4_restore_56 : decode cX4_restore 56 = .ok (.ireturn, 1) := by decide +kernel
theorem dX4_isSample_0 : decode cX4_isSample 0 = .ok (.iload_n 0, 1) := by decide +kernel
theorem dX4_isSample_1 : decode cX4_isSample 1 = .ok (.ifCond .lt 25, 3) := by decide +kernel
theorem dX4_isSample_4 : decode cX4_isSample 4 = .ok (.iload_n 0, 1) := by decide +kernel
theorem dX4_isSample_5 : decode cX4_isSample 5 = .ok (.sipush 255, 3) := by decide +kernel
theorem dX4_isSample_8 : decode cX4_isSample 8 = .ok (.if_icmp .gt 18, 3) := by decide +kernel
theorem dX4_isSample_11 : decode cX4_isSample 11 = .ok (.iload_n 1, 1) := by decide +kernel
theorem dX4_isSample_12 : decode cX4_isSample 12 = .ok (.ifCond .lt 14, 3) := by decide +kernel
theorem dX4_isSample_15 : decode cX4_isSample 15 = .ok (.iload_n 1, 1) := by decide +kernel
theorem dX4_isSample_16 : decode cX4_isSample 16 = .ok (.sipush 255, 3) := by decide +kernel
theorem dX4_isSample_19 : decode cX4_isSample 19 = .ok (.if_icmp .gt 7, 3) := by decide +kernel
theorem dX4_isSample_22 : decode cX4_isSample 22 = .ok (.iconst 1, 1) := by decide +kernel
theorem dX4_isSample_23 : decode cX4_isSample 23 = .ok (.goto 4, 3) := by decide +kernel
theorem dX4_isSample_26 : decode cX4_isSample 26 = .ok (.iconst 0, 1) := by decide +kernel
theorem dX4_isSample_27 : decode cX4_isSample 27 = .ok (.ireturn, 1) := by decide +kernel
theorem dX4_packed_0 : decode cX4_packed 0 = .ok (.sipush 1000, 3) := by decide +kernel
theorem dX4_packed_3 : decode cX4_packed 3 = .ok (.iload_n 0, 1) := by decide +kernel
theorem dX4_packed_4 : decode cX4_packed 4 = .ok (.bipush 100, 2) := by decide +kernel
theorem dX4_packed_6 : decode cX4_packed 6 = .ok (.iadd, 1) := by decide +kernel
theorem dX4_packed_7 : decode cX4_packed 7 = .ok (.imul, 1) := by decide +kernel
theorem dX4_packed_8 : decode cX4_packed 8 = .ok (.iload_n 1, 1) := by decide +kernel
theorem dX4_packed_9 : decode cX4_packed 9 = .ok (.iadd, 1) := by decide +kernel
theorem dX4_packed_10 : decode cX4_packed 10 = .ok (.bipush 100, 2) := by decide +kernel
theorem dX4_packed_12 : decode cX4_packed 12 = .ok (.iadd, 1) := by decide +kernel
theorem dX4_packed_13 : decode cX4_packed 13 = .ok (.ireturn, 1) := by decide +kernel
theorem dX4_quotient_0 : decode cX4_quotient 0 = .ok (.iload_n 1, 1) := by decide +kernel
theorem dX4_quotient_1 : decode cX4_quotient 1 = .ok (.ifCond .ne 7, 3) := by decide +kernel
theorem dX4_quotient_4 : decode cX4_quotient 4 = .ok (.iconst 0, 1) := by decide +kernel
theorem dX4_quotient_5 : decode cX4_quotient 5 = .ok (.goto 6, 3) := by decide +kernel
theorem dX4_quotient_8 : decode cX4_quotient 8 = .ok (.iload_n 0, 1) := by decide +kernel
theorem dX4_quotient_9 : decode cX4_quotient 9 = .ok (.iload_n 1, 1) := by decide +kernel
theorem dX4_quotient_10 : decode cX4_quotient 10 = .ok (.idiv, 1) := by decide +kernel
theorem dX4_quotient_11 : decode cX4_quotient 11 = .ok (.ireturn, 1) := by decide +kernel
theorem dL_cell_0 : decode cL_cell 0 = .ok (.iload_n 1, 1) := by decide +kernel
theorem dL_cell_1 : decode cL_cell 1 = .ok (.aload_n 0, 1) := by decide +kernel
theorem dL_cell_2 : decode cL_cell 2 = .ok (.arraylength, 1) := by decide +kernel
theorem dL_cell_3 : decode cL_cell 3 = .ok (.if_icmp .ge 9, 3) := by decide +kernel
theorem dL_cell_6 : decode cL_cell 6 = .ok (.aload_n 0, 1) := by decide +kernel
theorem dL_cell_7 : decode cL_cell 7 = .ok (.iload_n 1, 1) := by decide +kernel
theorem dL_cell_8 : decode cL_cell 8 = .ok (.iaload, 1) := by decide +kernel
theorem dL_cell_9 : decode cL_cell 9 = .ok (.goto 15, 3) := by decide +kernel
theorem dL_cell_12 : decode cL_cell 12 = .ok (.sipush 7919, 3) := by decide +kernel
theorem dL_cell_15 : decode cL_cell 15 = .ok (.iload_n 1, 1) := by decide +kernel
theorem dL_cell_16 : decode cL_cell 16 = .ok (.iconst 3, 1) := by decide +kernel
theorem dL_cell_17 : decode cL_cell 17 = .ok (.iadd, 1) := by decide +kernel
theorem dL_cell_18 : decode cL_cell 18 = .ok (.imul, 1) := by decide +kernel
theorem dL_cell_19 : decode cL_cell 19 = .ok (.iload_n 1, 1) := by decide +kernel
theorem dL_cell_20 : decode cL_cell 20 = .ok (.bipush 11, 2) := by decide +kernel
theorem dL_cell_22 : decode cL_cell 22 = .ok (.iadd, 1) := by decide +kernel
theorem dL_cell_23 : decode cL_cell 23 = .ok (.imul, 1) := by decide +kernel
theorem dL_cell_24 : decode cL_cell 24 = .ok (.ireturn, 1) := by decide +kernel
theorem dL_low_0 : decode cL_low 0 = .ok (.iload_n 0, 1) := by decide +kernel
theorem dL_low_1 : decode cL_low 1 = .ok (.ldc 7, 2) := by decide +kernel
theorem dL_low_3 : decode cL_low 3 = .ok (.iand, 1) := by decide +kernel
theorem dL_low_4 : decode cL_low 4 = .ok (.iload_n 1, 1) := by decide +kernel
theorem dL_low_5 : decode cL_low 5 = .ok (.irem, 1) := by decide +kernel
theorem dL_low_6 : decode cL_low 6 = .ok (.ireturn, 1) := by decide +kernel
theorem dL_size_0 : decode cL_size 0 = .ok (.iload_n 0, 1) := by decide +kernel
theorem dL_size_1 : decode cL_size 1 = .ok (.ifCond .ge 8, 3) := by decide +kernel
theorem dL_size_4 : decode cL_size 4 = .ok (.iload_n 0, 1) := by decide +kernel
theorem dL_size_5 : decode cL_size 5 = .ok (.ineg, 1) := by decide +kernel
theorem dL_size_6 : decode cL_size 6 = .ok (.goto 4, 3) := by decide +kernel
theorem dL_size_9 : decode cL_size 9 = .ok (.iload_n 0, 1) := by decide +kernel
theorem dL_size_10 : decode cL_size 10 = .ok (.ireturn, 1) := by decide +kernel
theorem dL_greater_0 : decode cL_greater 0 = .ok (.iload_n 0, 1) := by decide +kernel
theorem dL_greater_1 : decode cL_greater 1 = .ok (.iload_n 1, 1) := by decide +kernel
theorem dL_greater_2 : decode cL_greater 2 = .ok (.if_icmp .le 7, 3) := by decide +kernel
theorem dL_greater_5 : decode cL_greater 5 = .ok (.iload_n 0, 1) := by decide +kernel
theorem dL_greater_6 : decode cL_greater 6 = .ok (.goto 4, 3) := by decide +kernel
theorem dL_greater_9 : decode cL_greater 9 = .ok (.iload_n 1, 1) := by decide +kernel
theorem dL_greater_10 : decode cL_greater 10 = .ok (.ireturn, 1) := by decide +kernel
theorem dL_isStick_0 : decode cL_isStick 0 = .ok (.aload_n 0, 1) := by decide +kernel
theorem dL_isStick_1 : decode cL_isStick 1 = .ok (.iconst 1, 1) := by decide +kernel
theorem dL_isStick_2 : decode cL_isStick 2 = .ok (.invokevirtual 8, 3) := by decide +kernel
theorem dL_isStick_5 : decode cL_isStick 5 = .ok (.istore_n 1, 1) := by decide +kernel
theorem dL_isStick_6 : decode cL_isStick 6 = .ok (.aload_n 0, 1) := by decide +kernel
theorem dL_isStick_7 : decode cL_isStick 7 = .ok (.iconst 0, 1) := by decide +kernel
theorem dL_isStick_8 : decode cL_isStick 8 = .ok (.iconst 1, 1) := by decide +kernel
theorem dL_isStick_9 : decode cL_isStick 9 = .ok (.invokevirtual 14, 3) := by decide +kernel
theorem dL_isStick_12 : decode cL_isStick 12 = .ok (.bipush 100, 2) := by decide +kernel
theorem dL_isStick_14 : decode cL_isStick 14 = .ok (.isub, 1) := by decide +kernel
theorem dL_isStick_15 : decode cL_isStick 15 = .ok (.istore_n 2, 1) := by decide +kernel
theorem dL_isStick_16 : decode cL_isStick 16 = .ok (.aload_n 0, 1) := by decide +kernel
theorem dL_isStick_17 : decode cL_isStick 17 = .ok (.iconst 1, 1) := by decide +kernel
theorem dL_isStick_18 : decode cL_isStick 18 = .ok (.iconst 1, 1) := by decide +kernel
theorem dL_isStick_19 : decode cL_isStick 19 = .ok (.invokevirtual 14, 3) := by decide +kernel
theorem dL_isStick_22 : decode cL_isStick 22 = .ok (.bipush 100, 2) := by decide +kernel
theorem dL_isStick_24 : decode cL_isStick 24 = .ok (.isub, 1) := by decide +kernel
theorem dL_isStick_25 : decode cL_isStick 25 = .ok (.istore_n 3, 1) := by decide +kernel
theorem dL_isStick_26 : decode cL_isStick 26 = .ok (.iload_n 1, 1) := by decide +kernel
theorem dL_isStick_27 : decode cL_isStick 27 = .ok (.aload_n 0, 1) := by decide +kernel
theorem dL_isStick_28 : decode cL_isStick 28 = .ok (.bipush 11, 2) := by decide +kernel
theorem dL_isStick_30 : decode cL_isStick 30 = .ok (.invokevirtual 8, 3) := by decide +kernel
theorem dL_isStick_33 : decode cL_isStick 33 = .ok (.if_icmp .lt 78, 3) := by decide +kernel
theorem dL_isStick_36 : decode cL_isStick 36 = .ok (.iload_n 1, 1) := by decide +kernel
theorem dL_isStick_37 : decode cL_isStick 37 = .ok (.aload_n 0, 1) := by decide +kernel
theorem dL_isStick_38 : decode cL_isStick 38 = .ok (.bipush 11, 2) := by decide +kernel
theorem dL_isStick_40 : decode cL_isStick 40 = .ok (.invokevirtual 8, 3) := by decide +kernel
theorem dL_isStick_43 : decode cL_isStick 43 = .ok (.aload_n 0, 1) := by decide +kernel
theorem dL_isStick_44 : decode cL_isStick 44 = .ok (.bipush 12, 2) := by decide +kernel
theorem dL_isStick_46 : decode cL_isStick 46 = .ok (.invokevirtual 8, 3) := by decide +kernel
theorem dL_isStick_49 : decode cL_isStick 49 = .ok (.iadd, 1) := by decide +kernel
theorem dL_isStick_50 : decode cL_isStick 50 = .ok (.if_icmp .gt 61, 3) := by decide +kernel
theorem dL_isStick_53 : decode cL_isStick 53 = .ok (.iload_n 2, 1) := by decide +kernel
theorem dL_isStick_54 : decode cL_isStick 54 = .ok (.invokestatic 18, 3) := by decide +kernel
theorem dL_isStick_57 : decode cL_isStick 57 = .ok (.bipush 100, 2) := by decide +kernel
theorem dL_isStick_59 : decode cL_isStick 59 = .ok (.if_icmp .gt 52, 3) := by decide +kernel
theorem dL_isStick_62 : decode cL_isStick 62 = .ok (.iload_n 3, 1) := by decide +kernel
theorem dL_isStick_63 : decode cL_isStick 63 = .ok (.invokestatic 18, 3) := by decide +kernel
theorem dL_isStick_66 : decode cL_isStick 66 = .ok (.bipush 100, 2) := by decide +kernel
theorem dL_isStick_68 : decode cL_isStick 68 = .ok (.if_icmp .gt 43, 3) := by decide +kernel
theorem dL_isStick_71 : decode cL_isStick 71 = .ok (.iload_n 2, 1) := by decide +kernel
theorem dL_isStick_72 : decode cL_isStick 72 = .ok (.invokestatic 18, 3) := by decide +kernel
theorem dL_isStick_75 : decode cL_isStick 75 = .ok (.iload_n 3, 1) := by decide +kernel
theorem dL_isStick_76 : decode cL_isStick 76 = .ok (.invokestatic 18, 3) := by decide +kernel
theorem dL_isStick_79 : decode cL_isStick 79 = .ok (.iadd, 1) := by decide +kernel
theorem dL_isStick_80 : decode cL_isStick 80 = .ok (.aload_n 0, 1) := by decide +kernel
theorem dL_isStick_81 : decode cL_isStick 81 = .ok (.bipush 14, 2) := by decide +kernel
theorem dL_isStick_83 : decode cL_isStick 83 = .ok (.invokevirtual 8, 3) := by decide +kernel
theorem dL_isStick_86 : decode cL_isStick 86 = .ok (.if_icmp .gt 25, 3) := by decide +kernel
theorem dL_isStick_89 : decode cL_isStick 89 = .ok (.aload_n 0, 1) := by decide +kernel
theorem dL_isStick_90 : decode cL_isStick 90 = .ok (.iconst 3, 1) := by decide +kernel
theorem dL_isStick_91 : decode cL_isStick 91 = .ok (.invokevirtual 8, 3) := by decide +kernel
theorem dL_isStick_94 : decode cL_isStick 94 = .ok (.ifCond .lt 17, 3) := by decide +kernel
theorem dL_isStick_97 : decode cL_isStick 97 = .ok (.aload_n 0, 1) := by decide +kernel
theorem dL_isStick_98 : decode cL_isStick 98 = .ok (.iconst 3, 1) := by decide +kernel
theorem dL_isStick_99 : decode cL_isStick 99 = .ok (.invokevirtual 8, 3) := by decide +kernel
theorem dL_isStick_102 : decode cL_isStick 102 = .ok (.bipush 20, 2) := by decide +kernel
theorem dL_isStick_104 : decode cL_isStick 104 = .ok (.if_icmp .gt 7, 3) := by decide +kernel
theorem dL_isStick_107 : decode cL_isStick 107 = .ok (.iconst 1, 1) := by decide +kernel
theorem dL_isStick_108 : decode cL_isStick 108 = .ok (.goto 4, 3) := by decide +kernel
theorem dL_isStick_111 : decode cL_isStick 111 = .ok (.iconst 0, 1) := by decide +kernel
theorem dL_isStick_112 : decode cL_isStick 112 = .ok (.istore 4, 2) := by decide +kernel
theorem dL_isStick_114 : decode cL_isStick 114 = .ok (.iconst 0, 1) := by decide +kernel
theorem dL_isStick_115 : decode cL_isStick 115 = .ok (.istore 5, 2) := by decide +kernel
theorem dL_isStick_117 : decode cL_isStick 117 = .ok (.iload 5, 2) := by decide +kernel
theorem dL_isStick_119 : decode cL_isStick 119 = .ok (.iconst 2, 1) := by decide +kernel
theorem dL_isStick_120 : decode cL_isStick 120 = .ok (.if_icmp .ge 117, 3) := by decide +kernel
theorem dL_isStick_123 : decode cL_isStick 123 = .ok (.aload_n 0, 1) := by decide +kernel
theorem dL_isStick_124 : decode cL_isStick 124 = .ok (.iload 5, 2) := by decide +kernel
theorem dL_isStick_126 : decode cL_isStick 126 = .ok (.iconst 0, 1) := by decide +kernel
theorem dL_isStick_127 : decode cL_isStick 127 = .ok (.invokevirtual 14, 3) := by decide +kernel
theorem dL_isStick_130 : decode cL_isStick 130 = .ok (.istore 6, 2) := by decide +kernel
theorem dL_isStick_132 : decode cL_isStick 132 = .ok (.aload_n 0, 1) := by decide +kernel
theorem dL_isStick_133 : decode cL_isStick 133 = .ok (.iload 5, 2) := by decide +kernel
theorem dL_isStick_135 : decode cL_isStick 135 = .ok (.iconst 2, 1) := by decide +kernel
theorem dL_isStick_136 : decode cL_isStick 136 = .ok (.invokevirtual 14, 3) := by decide +kernel
theorem dL_isStick_139 : decode cL_isStick 139 = .ok (.istore 7, 2) := by decide +kernel
theorem dL_isStick_141 : decode cL_isStick 141 = .ok (.iload 4, 2) := by decide +kernel
theorem dL_isStick_143 : decode cL_isStick 143 = .ok (.ifCond .eq 85, 3) := by decide +kernel
theorem dL_isStick_146 : decode cL_isStick 146 = .ok (.iload 6, 2) := by decide +kernel
theorem dL_isStick_148 : decode cL_isStick 148 = .ok (.ifCond .lt 80, 3) := by decide +kernel
theorem dL_isStick_151 : decode cL_isStick 151 = .ok (.iload 6, 2) := by decide +kernel
theorem dL_isStick_153 : decode cL_isStick 153 = .ok (.sipush 4080, 3) := by decide +kernel
theorem dL_isStick_156 : decode cL_isStick 156 = .ok (.if_icmp .gt 72, 3) := by decide +kernel
theorem dL_isStick_159 : decode cL_isStick 159 = .ok (.aload_n 0, 1) := by decide +kernel
theorem dL_isStick_160 : decode cL_isStick 160 = .ok (.iconst 0, 1) := by decide +kernel
theorem dL_isStick_161 : decode cL_isStick 161 = .ok (.invokevirtual 8, 3) := by decide +kernel
theorem dL_isStick_164 : decode cL_isStick 164 = .ok (.ifCond .ne 25, 3) := by decide +kernel
theorem dL_isStick_167 : decode cL_isStick 167 = .ok (.iload 7, 2) := by decide +kernel
theorem dL_isStick_169 : decode cL_isStick 169 = .ok (.bipush (-6), 2) := by decide +kernel
theorem dL_isStick_171 : decode cL_isStick 171 = .ok (.if_icmp .ne 57, 3) := by decide +kernel
theorem dL_isStick_174 : decode cL_isStick 174 = .ok (.aload_n 0, 1) := by decide +kernel
theorem dL_isStick_175 : decode cL_isStick 175 = .ok (.iload 5, 2) := by decide +kernel
theorem dL_isStick_177 : decode cL_isStick 177 = .ok (.iconst 3, 1) := by decide +kernel
theorem dL_isStick_178 : decode cL_isStick 178 = .ok (.invokevirtual 14, 3) := by decide +kernel
theorem dL_isStick_181 : decode cL_isStick 181 = .ok (.bipush (-6), 2) := by decide +kernel
theorem dL_isStick_183 : decode cL_isStick 183 = .ok (.if_icmp .ne 45, 3) := by decide +kernel
theorem dL_isStick_186 : decode cL_isStick 186 = .ok (.goto 38, 3) := by decide +kernel
theorem dL_isStick_189 : decode cL_isStick 189 = .ok (.iload 7, 2) := by decide +kernel
theorem dL_isStick_191 : decode cL_isStick 191 = .ok (.ifCond .lt 37, 3) := by decide +kernel
theorem dL_isStick_194 : decode cL_isStick 194 = .ok (.iload 7, 2) := by decide +kernel
theorem dL_isStick_196 : decode cL_isStick 196 = .ok (.sipush 256, 3) := by decide +kernel
theorem dL_isStick_199 : decode cL_isStick 199 = .ok (.if_icmp .ge 29, 3) := by decide +kernel
theorem dL_isStick_202 : decode cL_isStick 202 = .ok (.aload_n 0, 1) := by decide +kernel
theorem dL_isStick_203 : decode cL_isStick 203 = .ok (.iload 5, 2) := by decide +kernel
theorem dL_isStick_205 : decode cL_isStick 205 = .ok (.iconst 3, 1) := by decide +kernel
theorem dL_isStick_206 : decode cL_isStick 206 = .ok (.invokevirtual 14, 3) := by decide +kernel
theorem dL_isStick_209 : decode cL_isStick 209 = .ok (.iload 7, 2) := by decide +kernel
theorem dL_isStick_211 : decode cL_isStick 211 = .ok (.iload 6, 2) := by decide +kernel
theorem dL_isStick_213 : decode cL_isStick 213 = .ok (.bipush 16, 2) := by decide +kernel
theorem dL_isStick_215 : decode cL_isStick 215 = .ok (.idiv, 1) := by decide +kernel
theorem dL_isStick_216 : decode cL_isStick 216 = .ok (.isub, 1) := by decide +kernel
theorem dL_isStick_217 : decode cL_isStick 217 = .ok (.sipush 1000, 3) := by decide +kernel
theorem dL_isStick_220 : decode cL_isStick 220 = .ok (.iadd, 1) := by decide +kernel
theorem dL_isStick_221 : decode cL_isStick 221 = .ok (.if_icmp .ne 7, 3) := by decide +kernel
theorem dL_isStick_224 : decode cL_isStick 224 = .ok (.iconst 1, 1) := by decide +kernel
theorem dL_isStick_225 : decode cL_isStick 225 = .ok (.goto 4, 3) := by decide +kernel
theorem dL_isStick_228 : decode cL_isStick 228 = .ok (.iconst 0, 1) := by decide +kernel
theorem dL_isStick_229 : decode cL_isStick 229 = .ok (.istore 4, 2) := by decide +kernel
theorem dL_isStick_231 : decode cL_isStick 231 = .ok (.iinc 5 1, 3) := by decide +kernel
theorem dL_isStick_234 : decode cL_isStick 234 = .ok (.goto (-117), 3) := by decide +kernel
theorem dL_isStick_237 : decode cL_isStick 237 = .ok (.iconst 0, 1) := by decide +kernel
theorem dL_isStick_238 : decode cL_isStick 238 = .ok (.istore 5, 2) := by decide +kernel
theorem dL_isStick_240 : decode cL_isStick 240 = .ok (.iconst 0, 1) := by decide +kernel
theorem dL_isStick_241 : decode cL_isStick 241 = .ok (.istore 6, 2) := by decide +kernel
theorem dL_isStick_243 : decode cL_isStick 243 = .ok (.iconst 0, 1) := by decide +kernel
theorem dL_isStick_244 : decode cL_isStick 244 = .ok (.istore 7, 2) := by decide +kernel
theorem dL_isStick_246 : decode cL_isStick 246 = .ok (.iload 7, 2) := by decide +kernel
theorem dL_isStick_248 : decode cL_isStick 248 = .ok (.aload_n 0, 1) := by decide +kernel
theorem dL_isStick_249 : decode cL_isStick 249 = .ok (.bipush 8, 2) := by decide +kernel
theorem dL_isStick_251 : decode cL_isStick 251 = .ok (.invokevirtual 8, 3) := by decide +kernel
theorem dL_isStick_254 : decode cL_isStick 254 = .ok (.if_icmp .ge 152, 3) := by decide +kernel
theorem dL_isStick_257 : decode cL_isStick 257 = .ok (.iload 7, 2) := by decide +kernel
theorem dL_isStick_259 : decode cL_isStick 259 = .ok (.bipush 9, 2) := by decide +kernel
theorem dL_isStick_261 : decode cL_isStick 261 = .ok (.if_icmp .ge 145, 3) := by decide +kernel
theorem dL_isStick_264 : decode cL_isStick 264 = .ok (.aload_n 0, 1) := by decide +kernel
theorem dL_isStick_265 : decode cL_isStick 265 = .ok (.iload 7, 2) := by decide +kernel
theorem dL_isStick_267 : decode cL_isStick 267 = .ok (.iconst 2, 1) := by decide +kernel
theorem dL_isStick_268 : decode cL_isStick 268 = .ok (.invokevirtual 23, 3) := by decide +kernel
theorem dL_isStick_271 : decode cL_isStick 271 = .ok (.istore 8, 2) := by decide +kernel
theorem dL_isStick_273 : decode cL_isStick 273 = .ok (.aload_n 0, 1) := by decide +kernel
theorem dL_isStick_274 : decode cL_isStick 274 = .ok (.iload 7, 2) := by decide +kernel
theorem dL_isStick_276 : decode cL_isStick 276 = .ok (.iconst 3, 1) := by decide +kernel
theorem dL_isStick_277 : decode cL_isStick 277 = .ok (.invokevirtual 23, 3) := by decide +kernel
theorem dL_isStick_280 : decode cL_isStick 280 = .ok (.istore 9, 2) := by decide +kernel
theorem dL_isStick_282 : decode cL_isStick 282 = .ok (.aload_n 0, 1) := by decide +kernel
theorem dL_isStick_283 : decode cL_isStick 283 = .ok (.iload 7, 2) := by decide +kernel
theorem dL_isStick_285 : decode cL_isStick 285 = .ok (.iconst 0, 1) := by decide +kernel
theorem dL_isStick_286 : decode cL_isStick 286 = .ok (.invokevirtual 23, 3) := by decide +kernel
theorem dL_isStick_289 : decode cL_isStick 289 = .ok (.iconst 1, 1) := by decide +kernel
theorem dL_isStick_290 : decode cL_isStick 290 = .ok (.if_icmp .ne 18, 3) := by decide +kernel
theorem dL_isStick_293 : decode cL_isStick 293 = .ok (.aload_n 0, 1) := by decide +kernel
theorem dL_isStick_294 : decode cL_isStick 294 = .ok (.iload 7, 2) := by decide +kernel
theorem dL_isStick_296 : decode cL_isStick 296 = .ok (.iconst 1, 1) := by decide +kernel
theorem dL_isStick_297 : decode cL_isStick 297 = .ok (.invokevirtual 23, 3) := by decide +kernel
theorem dL_isStick_300 : decode cL_isStick 300 = .ok (.iconst 1, 1) := by decide +kernel
theorem dL_isStick_301 : decode cL_isStick 301 = .ok (.if_icmp .ne 7, 3) := by decide +kernel
theorem dL_isStick_304 : decode cL_isStick 304 = .ok (.iconst 1, 1) := by decide +kernel
theorem dL_isStick_305 : decode cL_isStick 305 = .ok (.goto 4, 3) := by decide +kernel
theorem dL_isStick_308 : decode cL_isStick 308 = .ok (.iconst 0, 1) := by decide +kernel
theorem dL_isStick_309 : decode cL_isStick 309 = .ok (.istore 10, 2) := by decide +kernel
theorem dL_isStick_311 : decode cL_isStick 311 = .ok (.iload 5, 2) := by decide +kernel
theorem dL_isStick_313 : decode cL_isStick 313 = .ok (.iload 8, 2) := by decide +kernel
theorem dL_isStick_315 : decode cL_isStick 315 = .ok (.iadd, 1) := by decide +kernel
theorem dL_isStick_316 : decode cL_isStick 316 = .ok (.istore 5, 2) := by decide +kernel
theorem dL_isStick_318 : decode cL_isStick 318 = .ok (.iload 6, 2) := by decide +kernel
theorem dL_isStick_320 : decode cL_isStick 320 = .ok (.iload 10, 2) := by decide +kernel
theorem dL_isStick_322 : decode cL_isStick 322 = .ok (.ifCond .eq 7, 3) := by decide +kernel
theorem dL_isStick_325 : decode cL_isStick 325 = .ok (.iconst 0, 1) := by decide +kernel
theorem dL_isStick_326 : decode cL_isStick 326 = .ok (.goto 5, 3) := by decide +kernel
theorem dL_isStick_329 : decode cL_isStick 329 = .ok (.iload 8, 2) := by decide +kernel
theorem dL_isStick_331 : decode cL_isStick 331 = .ok (.iadd, 1) := by decide +kernel
theorem dL_isStick_332 : decode cL_isStick 332 = .ok (.istore 6, 2) := by decide +kernel
theorem dL_isStick_334 : decode cL_isStick 334 = .ok (.iload 4, 2) := by decide +kernel
theorem dL_isStick_336 : decode cL_isStick 336 = .ok (.ifCond .eq 61, 3) := by decide +kernel
theorem dL_isStick_339 : decode cL_isStick 339 = .ok (.iload 9, 2) := by decide +kernel
theorem dL_isStick_341 : decode cL_isStick 341 = .ok (.ifCond .le 56, 3) := by decide +kernel
theorem dL_isStick_344 : decode cL_isStick 344 = .ok (.iload 9, 2) := by decide +kernel
theorem dL_isStick_346 : decode cL_isStick 346 = .ok (.iload 8, 2) := by decide +kernel
theorem dL_isStick_348 : decode cL_isStick 348 = .ok (.if_icmp .gt 49, 3) := by decide +kernel
theorem dL_isStick_351 : decode cL_isStick 351 = .ok (.aload_n 0, 1) := by decide +kernel
theorem dL_isStick_352 : decode cL_isStick 352 = .ok (.iload 7, 2) := by decide +kernel
theorem dL_isStick_354 : decode cL_isStick 354 = .ok (.iconst 0, 1) := by decide +kernel
theorem dL_isStick_355 : decode cL_isStick 355 = .ok (.invokevirtual 23, 3) := by decide +kernel
theorem dL_isStick_358 : decode cL_isStick 358 = .ok (.ifCond .lt 39, 3) := by decide +kernel
theorem dL_isStick_361 : decode cL_isStick 361 = .ok (.aload_n 0, 1) := by decide +kernel
theorem dL_isStick_362 : decode cL_isStick 362 = .ok (.iload 7, 2) := by decide +kernel
theorem dL_isStick_364 : decode cL_isStick 364 = .ok (.iconst 0, 1) := by decide +kernel
theorem dL_isStick_365 : decode cL_isStick 365 = .ok (.invokevirtual 23, 3) := by decide +kernel
theorem dL_isStick_368 : decode cL_isStick 368 = .ok (.iconst 3, 1) := by decide +kernel
theorem dL_isStick_369 : decode cL_isStick 369 = .ok (.if_icmp .ge 28, 3) := by decide +kernel
theorem dL_isStick_372 : decode cL_isStick 372 = .ok (.aload_n 0, 1) := by decide +kernel
theorem dL_isStick_373 : decode cL_isStick 373 = .ok (.iload 7, 2) := by decide +kernel
theorem dL_isStick_375 : decode cL_isStick 375 = .ok (.iconst 1, 1) := by decide +kernel
theorem dL_isStick_376 : decode cL_isStick 376 = .ok (.invokevirtual 23, 3) := by decide +kernel
theorem dL_isStick_379 : decode cL_isStick 379 = .ok (.ifCond .lt 18, 3) := by decide +kernel
theorem dL_isStick_382 : decode cL_isStick 382 = .ok (.aload_n 0, 1) := by decide +kernel
theorem dL_isStick_383 : decode cL_isStick 383 = .ok (.iload 7, 2) := by decide +kernel
theorem dL_isStick_385 : decode cL_isStick 385 = .ok (.iconst 1, 1) := by decide +kernel
theorem dL_isStick_386 : decode cL_isStick 386 = .ok (.invokevirtual 23, 3) := by decide +kernel
theorem dL_isStick_389 : decode cL_isStick 389 = .ok (.iconst 3, 1) := by decide +kernel
theorem dL_isStick_390 : decode cL_isStick 390 = .ok (.if_icmp .ge 7, 3) := by decide +kernel
theorem dL_isStick_393 : decode cL_isStick 393 = .ok (.iconst 1, 1) := by decide +kernel
theorem dL_isStick_394 : decode cL_isStick 394 = .ok (.goto 4, 3) := by decide +kernel
theorem dL_isStick_397 : decode cL_isStick 397 = .ok (.iconst 0, 1) := by decide +kernel
theorem dL_isStick_398 : decode cL_isStick 398 = .ok (.istore 4, 2) := by decide +kernel
theorem dL_isStick_400 : decode cL_isStick 400 = .ok (.iinc 7 1, 3) := by decide +kernel
theorem dL_isStick_403 : decode cL_isStick 403 = .ok (.goto (-157), 3) := by decide +kernel
theorem dL_isStick_406 : decode cL_isStick 406 = .ok (.iload 4, 2) := by decide +kernel
theorem dL_isStick_408 : decode cL_isStick 408 = .ok (.ifCond .eq 69, 3) := by decide +kernel
theorem dL_isStick_411 : decode cL_isStick 411 = .ok (.iload 5, 2) := by decide +kernel
theorem dL_isStick_413 : decode cL_isStick 413 = .ok (.aload_n 0, 1) := by decide +kernel
theorem dL_isStick_414 : decode cL_isStick 414 = .ok (.iconst 0, 1) := by decide +kernel
theorem dL_isStick_415 : decode cL_isStick 415 = .ok (.invokevirtual 8, 3) := by decide +kernel
theorem dL_isStick_418 : decode cL_isStick 418 = .ok (.if_icmp .ne 59, 3) := by decide +kernel
theorem dL_isStick_421 : decode cL_isStick 421 = .ok (.iload 6, 2) := by decide +kernel
theorem dL_isStick_423 : decode cL_isStick 423 = .ok (.aload_n 0, 1) := by decide +kernel
theorem dL_isStick_424 : decode cL_isStick 424 = .ok (.bipush 7, 2) := by decide +kernel
theorem dL_isStick_426 : decode cL_isStick 426 = .ok (.invokevirtual 8, 3) := by decide +kernel
theorem dL_isStick_429 : decode cL_isStick 429 = .ok (.if_icmp .ne 48, 3) := by decide +kernel
theorem dL_isStick_432 : decode cL_isStick 432 = .ok (.aload_n 0, 1) := by decide +kernel
theorem dL_isStick_433 : decode cL_isStick 433 = .ok (.aload_n 0, 1) := by decide +kernel
theorem dL_isStick_434 : decode cL_isStick 434 = .ok (.bipush 8, 2) := by decide +kernel
theorem dL_isStick_436 : decode cL_isStick 436 = .ok (.invokevirtual 8, 3) := by decide +kernel
theorem dL_isStick_439 : decode cL_isStick 439 = .ok (.iconst 0, 1) := by decide +kernel
theorem dL_isStick_440 : decode cL_isStick 440 = .ok (.invokevirtual 23, 3) := by decide +kernel
theorem dL_isStick_443 : decode cL_isStick 443 = .ok (.iconst (-1), 1) := by decide +kernel
theorem dL_isStick_444 : decode cL_isStick 444 = .ok (.if_icmp .ne 33, 3) := by decide +kernel
theorem dL_isStick_447 : decode cL_isStick 447 = .ok (.aload_n 0, 1) := by decide +kernel
theorem dL_isStick_448 : decode cL_isStick 448 = .ok (.iconst 4, 1) := by decide +kernel
theorem dL_isStick_449 : decode cL_isStick 449 = .ok (.invokevirtual 8, 3) := by decide +kernel
theorem dL_isStick_452 : decode cL_isStick 452 = .ok (.aload_n 0, 1) := by decide +kernel
theorem dL_isStick_453 : decode cL_isStick 453 = .ok (.iconst 5, 1) := by decide +kernel
theorem dL_isStick_454 : decode cL_isStick 454 = .ok (.invokevirtual 8, 3) := by decide +kernel
theorem dL_isStick_457 : decode cL_isStick 457 = .ok (.iadd, 1) := by decide +kernel
theorem dL_isStick_458 : decode cL_isStick 458 = .ok (.aload_n 0, 1) := by decide +kernel
theorem dL_isStick_459 : decode cL_isStick 459 = .ok (.bipush 7, 2) := by decide +kernel
theorem dL_isStick_461 : decode cL_isStick 461 = .ok (.invokevirtual 8, 3) := by decide +kernel
theorem dL_isStick_464 : decode cL_isStick 464 = .ok (.aload_n 0, 1) := by decide +kernel
theorem dL_isStick_465 : decode cL_isStick 465 = .ok (.iconst 5, 1) := by decide +kernel
theorem dL_isStick_466 : decode cL_isStick 466 = .ok (.invokevirtual 8, 3) := by decide +kernel
theorem dL_isStick_469 : decode cL_isStick 469 = .ok (.iadd, 1) := by decide +kernel
theorem dL_isStick_470 : decode cL_isStick 470 = .ok (.if_icmp .gt 7, 3) := by decide +kernel
theorem dL_isStick_473 : decode cL_isStick 473 = .ok (.iconst 1, 1) := by decide +kernel
theorem dL_isStick_474 : decode cL_isStick 474 = .ok (.goto 4, 3) := by decide +kernel
theorem dL_isStick_477 : decode cL_isStick 477 = .ok (.iconst 0, 1) := by decide +kernel
theorem dL_isStick_478 : decode cL_isStick 478 = .ok (.ireturn, 1) := by decide +kernel
theorem dL_isSample_0 : decode cL_isSample 0 = .ok (.aload_n 0, 1) := by decide +kernel
theorem dL_isSample_1 : decode cL_isSample 1 = .ok (.iconst 1, 1) := by decide +kernel
theorem dL_isSample_2 : decode cL_isSample 2 = .ok (.invokevirtual 8, 3) := by decide +kernel
theorem dL_isSample_5 : decode cL_isSample 5 = .ok (.istore_n 3, 1) := by decide +kernel
theorem dL_isSample_6 : decode cL_isSample 6 = .ok (.iload_n 1, 1) := by decide +kernel
theorem dL_isSample_7 : decode cL_isSample 7 = .ok (.aload_n 0, 1) := by decide +kernel
theorem dL_isSample_8 : decode cL_isSample 8 = .ok (.iconst 0, 1) := by decide +kernel
theorem dL_isSample_9 : decode cL_isSample 9 = .ok (.iconst 0, 1) := by decide +kernel
theorem dL_isSample_10 : decode cL_isSample 10 = .ok (.invokevirtual 14, 3) := by decide +kernel
theorem dL_isSample_13 : decode cL_isSample 13 = .ok (.bipush 16, 2) := by decide +kernel
theorem dL_isSample_15 : decode cL_isSample 15 = .ok (.idiv, 1) := by decide +kernel
theorem dL_isSample_16 : decode cL_isSample 16 = .ok (.isub, 1) := by decide +kernel
theorem dL_isSample_17 : decode cL_isSample 17 = .ok (.istore 4, 2) := by decide +kernel
theorem dL_isSample_19 : decode cL_isSample 19 = .ok (.iload_n 2, 1) := by decide +kernel
theorem dL_isSample_20 : decode cL_isSample 20 = .ok (.aload_n 0, 1) := by decide +kernel
theorem dL_isSample_21 : decode cL_isSample 21 = .ok (.iconst 1, 1) := by decide +kernel
theorem dL_isSample_22 : decode cL_isSample 22 = .ok (.iconst 0, 1) := by decide +kernel
theorem dL_isSample_23 : decode cL_isSample 23 = .ok (.invokevirtual 14, 3) := by decide +kernel
theorem dL_isSample_26 : decode cL_isSample 26 = .ok (.bipush 16, 2) := by decide +kernel
theorem dL_isSample_28 : decode cL_isSample 28 = .ok (.idiv, 1) := by decide +kernel
theorem dL_isSample_29 : decode cL_isSample 29 = .ok (.isub, 1) := by decide +kernel
theorem dL_isSample_30 : decode cL_isSample 30 = .ok (.istore 5, 2) := by decide +kernel
theorem dL_isSample_32 : decode cL_isSample 32 = .ok (.iload 4, 2) := by decide +kernel
theorem dL_isSample_34 : decode cL_isSample 34 = .ok (.invokestatic 18, 3) := by decide +kernel
theorem dL_isSample_37 : decode cL_isSample 37 = .ok (.iload 5, 2) := by decide +kernel
theorem dL_isSample_39 : decode cL_isSample 39 = .ok (.invokestatic 18, 3) := by decide +kernel
theorem dL_isSample_42 : decode cL_isSample 42 = .ok (.invokestatic 26, 3) := by decide +kernel
theorem dL_isSample_45 : decode cL_isSample 45 = .ok (.istore 6, 2) := by decide +kernel
theorem dL_isSample_47 : decode cL_isSample 47 = .ok (.aload_n 0, 1) := by decide +kernel
theorem dL_isSample_48 : decode cL_isSample 48 = .ok (.iconst 2, 1) := by decide +kernel
theorem dL_isSample_49 : decode cL_isSample 49 = .ok (.invokevirtual 8, 3) := by decide +kernel
theorem dL_isSample_52 : decode cL_isSample 52 = .ok (.istore 7, 2) := by decide +kernel
theorem dL_isSample_54 : decode cL_isSample 54 = .ok (.aload_n 0, 1) := by decide +kernel
theorem dL_isSample_55 : decode cL_isSample 55 = .ok (.iconst 3, 1) := by decide +kernel
theorem dL_isSample_56 : decode cL_isSample 56 = .ok (.invokevirtual 8, 3) := by decide +kernel
theorem dL_isSample_59 : decode cL_isSample 59 = .ok (.istore 8, 2) := by decide +kernel
theorem dL_isSample_61 : decode cL_isSample 61 = .ok (.aload_n 0, 1) := by decide +kernel
theorem dL_isSample_62 : decode cL_isSample 62 = .ok (.iconst 4, 1) := by decide +kernel
theorem dL_isSample_63 : decode cL_isSample 63 = .ok (.invokevirtual 8, 3) := by decide +kernel
theorem dL_isSample_66 : decode cL_isSample 66 = .ok (.istore 9, 2) := by decide +kernel
theorem dL_isSample_68 : decode cL_isSample 68 = .ok (.aload_n 0, 1) := by decide +kernel
theorem dL_isSample_69 : decode cL_isSample 69 = .ok (.iconst 5, 1) := by decide +kernel
theorem dL_isSample_70 : decode cL_isSample 70 = .ok (.invokevirtual 8, 3) := by decide +kernel
theorem dL_isSample_73 : decode cL_isSample 73 = .ok (.istore 10, 2) := by decide +kernel
theorem dL_isSample_75 : decode cL_isSample 75 = .ok (.aload_n 0, 1) := by decide +kernel
theorem dL_isSample_76 : decode cL_isSample 76 = .ok (.bipush 9, 2) := by decide +kernel
theorem dL_isSample_78 : decode cL_isSample 78 = .ok (.invokevirtual 8, 3) := by decide +kernel
theorem dL_isSample_81 : decode cL_isSample 81 = .ok (.istore 11, 2) := by decide +kernel
theorem dL_isSample_83 : decode cL_isSample 83 = .ok (.aload_n 0, 1) := by decide +kernel
theorem dL_isSample_84 : decode cL_isSample 84 = .ok (.iconst 0, 1) := by decide +kernel
theorem dL_isSample_85 : decode cL_isSample 85 = .ok (.iconst 0, 1) := by decide +kernel
theorem dL_isSample_86 : decode cL_isSample 86 = .ok (.invokevirtual 14, 3) := by decide +kernel
theorem dL_isSample_89 : decode cL_isSample 89 = .ok (.istore 12, 2) := by decide +kernel
theorem dL_isSample_91 : decode cL_isSample 91 = .ok (.aload_n 0, 1) := by decide +kernel
theorem dL_isSample_92 : decode cL_isSample 92 = .ok (.iconst 1, 1) := by decide +kernel
theorem dL_isSample_93 : decode cL_isSample 93 = .ok (.iconst 0, 1) := by decide +kernel
theorem dL_isSample_94 : decode cL_isSample 94 = .ok (.invokevirtual 14, 3) := by decide +kernel
theorem dL_isSample_97 : decode cL_isSample 97 = .ok (.istore 13, 2) := by decide +kernel
theorem dL_isSample_99 : decode cL_isSample 99 = .ok (.aload_n 0, 1) := by decide +kernel
theorem dL_isSample_100 : decode cL_isSample 100 = .ok (.iconst 0, 1) := by decide +kernel
theorem dL_isSample_101 : decode cL_isSample 101 = .ok (.iconst 1, 1) := by decide +kernel
theorem dL_isSample_102 : decode cL_isSample 102 = .ok (.invokevirtual 14, 3) := by decide +kernel
theorem dL_isSample_105 : decode cL_isSample 105 = .ok (.bipush 100, 2) := by decide +kernel
theorem dL_isSample_107 : decode cL_isSample 107 = .ok (.if_icmp .ne 14, 3) := by decide +kernel
theorem dL_isSample_110 : decode cL_isSample 110 = .ok (.aload_n 0, 1) := by decide +kernel
theorem dL_isSample_111 : decode cL_isSample 111 = .ok (.iconst 1, 1) := by decide +kernel
theorem dL_isSample_112 : decode cL_isSample 112 = .ok (.iconst 1, 1) := by decide +kernel
theorem dL_isSample_113 : decode cL_isSample 113 = .ok (.invokevirtual 14, 3) := by decide +kernel
theorem dL_isSample_116 : decode cL_isSample 116 = .ok (.bipush 100, 2) := by decide +kernel
theorem dL_isSample_118 : decode cL_isSample 118 = .ok (.if_icmp .eq 7, 3) := by decide +kernel
theorem dL_isSample_121 : decode cL_isSample 121 = .ok (.iconst 1, 1) := by decide +kernel
theorem dL_isSample_122 : decode cL_isSample 122 = .ok (.goto 4, 3) := by decide +kernel
theorem dL_isSample_125 : decode cL_isSample 125 = .ok (.iconst 0, 1) := by decide +kernel
theorem dL_isSample_126 : decode cL_isSample 126 = .ok (.istore 14, 2) := by decide +kernel
theorem dL_isSample_128 : decode cL_isSample 128 = .ok (.aload_n 0, 1) := by decide +kernel
theorem dL_isSample_129 : decode cL_isSample 129 = .ok (.iconst 0, 1) := by decide +kernel
theorem dL_isSample_130 : decode cL_isSample 130 = .ok (.invokevirtual 8, 3) := by decide +kernel
theorem dL_isSample_133 : decode cL_isSample 133 = .ok (.ifCond .le 37, 3) := by decide +kernel
theorem dL_isSample_136 : decode cL_isSample 136 = .ok (.iload_n 1, 1) := by decide +kernel
theorem dL_isSample_137 : decode cL_isSample 137 = .ok (.aload_n 0, 1) := by decide +kernel
theorem dL_isSample_138 : decode cL_isSample 138 = .ok (.iconst 0, 1) := by decide +kernel
theorem dL_isSample_139 : decode cL_isSample 139 = .ok (.iconst 2, 1) := by decide +kernel
theorem dL_isSample_140 : decode cL_isSample 140 = .ok (.invokevirtual 14, 3) := by decide +kernel
theorem dL_isSample_143 : decode cL_isSample 143 = .ok (.isub, 1) := by decide +kernel
theorem dL_isSample_144 : decode cL_isSample 144 = .ok (.invokestatic 18, 3) := by decide +kernel
theorem dL_isSample_147 : decode cL_isSample 147 = .ok (.iconst 2, 1) := by decide +kernel
theorem dL_isSample_148 : decode cL_isSample 148 = .ok (.if_icmp .ge 22, 3) := by decide +kernel
theorem dL_isSample_151 : decode cL_isSample 151 = .ok (.iload_n 2, 1) := by decide +kernel
theorem dL_isSample_152 : decode cL_isSample 152 = .ok (.aload_n 0, 1) := by decide +kernel
theorem dL_isSample_153 : decode cL_isSample 153 = .ok (.iconst 1, 1) := by decide +kernel
theorem dL_isSample_154 : decode cL_isSample 154 = .ok (.iconst 2, 1) := by decide +kernel
theorem dL_isSample_155 : decode cL_isSample 155 = .ok (.invokevirtual 14, 3) := by decide +kernel
theorem dL_isSample_158 : decode cL_isSample 158 = .ok (.isub, 1) := by decide +kernel
theorem dL_isSample_159 : decode cL_isSample 159 = .ok (.invokestatic 18, 3) := by decide +kernel
theorem dL_isSample_162 : decode cL_isSample 162 = .ok (.iconst 2, 1) := by decide +kernel
theorem dL_isSample_163 : decode cL_isSample 163 = .ok (.if_icmp .ge 7, 3) := by decide +kernel
theorem dL_isSample_166 : decode cL_isSample 166 = .ok (.iconst 1, 1) := by decide +kernel
theorem dL_isSample_167 : decode cL_isSample 167 = .ok (.goto 4, 3) := by decide +kernel
theorem dL_isSample_170 : decode cL_isSample 170 = .ok (.iconst 0, 1) := by decide +kernel
theorem dL_isSample_171 : decode cL_isSample 171 = .ok (.istore 15, 2) := by decide +kernel
theorem dL_isSample_173 : decode cL_isSample 173 = .ok (.aload_n 0, 1) := by decide +kernel
theorem dL_isSample_174 : decode cL_isSample 174 = .ok (.iload_n 1, 1) := by decide +kernel
theorem dL_isSample_175 : decode cL_isSample 175 = .ok (.iload_n 2, 1) := by decide +kernel
theorem dL_isSample_176 : decode cL_isSample 176 = .ok (.invokevirtual 29, 3) := by decide +kernel
theorem dL_isSample_179 : decode cL_isSample 179 = .ok (.istore 16, 2) := by decide +kernel
theorem dL_isSample_181 : decode cL_isSample 181 = .ok (.aload_n 0, 1) := by decide +kernel
theorem dL_isSample_182 : decode cL_isSample 182 = .ok (.iconst 0, 1) := by decide +kernel
theorem dL_isSample_183 : decode cL_isSample 183 = .ok (.invokevirtual 8, 3) := by decide +kernel
theorem dL_isSample_186 : decode cL_isSample 186 = .ok (.istore 17, 2) := by decide +kernel
theorem dL_isSample_188 : decode cL_isSample 188 = .ok (.aload_n 0, 1) := by decide +kernel
theorem dL_isSample_189 : decode cL_isSample 189 = .ok (.iload_n 1, 1) := by decide +kernel
theorem dL_isSample_190 : decode cL_isSample 190 = .ok (.iload_n 2, 1) := by decide +kernel
theorem dL_isSample_191 : decode cL_isSample 191 = .ok (.invokevirtual 32, 3) := by decide +kernel
theorem dL_isSample_194 : decode cL_isSample 194 = .ok (.iload 16, 2) := by decide +kernel
theorem dL_isSample_196 : decode cL_isSample 196 = .ok (.if_icmp .ne 58, 3) := by decide +kernel
theorem dL_isSample_199 : decode cL_isSample 199 = .ok (.aload_n 0, 1) := by decide +kernel
theorem dL_isSample_200 : decode cL_isSample 200 = .ok (.iconst 0, 1) := by decide +kernel
theorem dL_isSample_201 : decode cL_isSample 201 = .ok (.invokevirtual 8, 3) := by decide +kernel
theorem dL_isSample_204 : decode cL_isSample 204 = .ok (.iload 17, 2) := by decide +kernel
theorem dL_isSample_206 : decode cL_isSample 206 = .ok (.iconst 1, 1) := by decide +kernel
theorem dL_isSample_207 : decode cL_isSample 207 = .ok (.iadd, 1) := by decide +kernel
theorem dL_isSample_208 : decode cL_isSample 208 = .ok (.if_icmp .ne 46, 3) := by decide +kernel
theorem dL_isSample_211 : decode cL_isSample 211 = .ok (.aload_n 0, 1) := by decide +kernel
theorem dL_isSample_212 : decode cL_isSample 212 = .ok (.iconst 3, 1) := by decide +kernel
theorem dL_isSample_213 : decode cL_isSample 213 = .ok (.invokevirtual 8, 3) := by decide +kernel
theorem dL_isSample_216 : decode cL_isSample 216 = .ok (.iload 8, 2) := by decide +kernel
theorem dL_isSample_218 : decode cL_isSample 218 = .ok (.ifCond .le 10, 3) := by decide +kernel
theorem dL_isSample_221 : decode cL_isSample 221 = .ok (.iload 8, 2) := by decide +kernel
theorem dL_isSample_223 : decode cL_isSample 223 = .ok (.iconst 1, 1) := by decide +kernel
theorem dL_isSample_224 : decode cL_isSample 224 = .ok (.isub, 1) := by decide +kernel
theorem dL_isSample_225 : decode cL_isSample 225 = .ok (.goto 4, 3) := by decide +kernel
theorem dL_isSample_228 : decode cL_isSample 228 = .ok (.iconst 0, 1) := by decide +kernel
theorem dL_isSample_229 : decode cL_isSample 229 = .ok (.if_icmp .ne 25, 3) := by decide +kernel
theorem dL_isSample_232 : decode cL_isSample 232 = .ok (.iload 16, 2) := by decide +kernel
theorem dL_isSample_234 : decode cL_isSample 234 = .ok (.sipush 1000, 3) := by decide +kernel
theorem dL_isSample_237 : decode cL_isSample 237 = .ok (.aload_n 0, 1) := by decide +kernel
theorem dL_isSample_238 : decode cL_isSample 238 = .ok (.iconst 0, 1) := by decide +kernel
theorem dL_isSample_239 : decode cL_isSample 239 = .ok (.iconst 1, 1) := by decide +kernel
theorem dL_isSample_240 : decode cL_isSample 240 = .ok (.invokevirtual 14, 3) := by decide +kernel
theorem dL_isSample_243 : decode cL_isSample 243 = .ok (.imul, 1) := by decide +kernel
theorem dL_isSample_244 : decode cL_isSample 244 = .ok (.aload_n 0, 1) := by decide +kernel
theorem dL_isSample_245 : decode cL_isSample 245 = .ok (.iconst 1, 1) := by decide +kernel
theorem dL_isSample_246 : decode cL_isSample 246 = .ok (.iconst 1, 1) := by decide +kernel
theorem dL_isSample_247 : decode cL_isSample 247 = .ok (.invokevirtual 14, 3) := by decide +kernel
theorem dL_isSample_250 : decode cL_isSample 250 = .ok (.iadd, 1) := by decide +kernel
theorem dL_isSample_251 : decode cL_isSample 251 = .ok (.if_icmp .eq 5, 3) := by decide +kernel
theorem dL_isSample_254 : decode cL_isSample 254 = .ok (.iconst 0, 1) := by decide +kernel
theorem dL_isSample_255 : decode cL_isSample 255 = .ok (.ireturn, 1) := by decide +kernel
theorem dL_isSample_256 : decode cL_isSample 256 = .ok (.aload_n 0, 1) := by decide +kernel
theorem dL_isSample_257 : decode cL_isSample 257 = .ok (.iconst 0, 1) := by decide +kernel
theorem dL_isSample_258 : decode cL_isSample 258 = .ok (.iconst 1, 1) := by decide +kernel
theorem dL_isSample_259 : decode cL_isSample 259 = .ok (.invokevirtual 14, 3) := by decide +kernel
theorem dL_isSample_262 : decode cL_isSample 262 = .ok (.bipush 100, 2) := by decide +kernel
theorem dL_isSample_264 : decode cL_isSample 264 = .ok (.isub, 1) := by decide +kernel
theorem dL_isSample_265 : decode cL_isSample 265 = .ok (.istore 18, 2) := by decide +kernel
theorem dL_isSample_267 : decode cL_isSample 267 = .ok (.aload_n 0, 1) := by decide +kernel
theorem dL_isSample_268 : decode cL_isSample 268 = .ok (.iconst 1, 1) := by decide +kernel
theorem dL_isSample_269 : decode cL_isSample 269 = .ok (.iconst 1, 1) := by decide +kernel
theorem dL_isSample_270 : decode cL_isSample 270 = .ok (.invokevirtual 14, 3) := by decide +kernel
theorem dL_isSample_273 : decode cL_isSample 273 = .ok (.bipush 100, 2) := by decide +kernel
theorem dL_isSample_275 : decode cL_isSample 275 = .ok (.isub, 1) := by decide +kernel
theorem dL_isSample_276 : decode cL_isSample 276 = .ok (.istore 19, 2) := by decide +kernel
theorem dL_isSample_278 : decode cL_isSample 278 = .ok (.iload 6, 2) := by decide +kernel
theorem dL_isSample_280 : decode cL_isSample 280 = .ok (.iload_n 3, 1) := by decide +kernel
theorem dL_isSample_281 : decode cL_isSample 281 = .ok (.if_icmp .gt 246, 3) := by decide +kernel
theorem dL_isSample_284 : decode cL_isSample 284 = .ok (.iload 18, 2) := by decide +kernel
theorem dL_isSample_286 : decode cL_isSample 286 = .ok (.ifCond .ne 64, 3) := by decide +kernel
theorem dL_isSample_289 : decode cL_isSample 289 = .ok (.iload 19, 2) := by decide +kernel
theorem dL_isSample_291 : decode cL_isSample 291 = .ok (.ifCond .ne 59, 3) := by decide +kernel
theorem dL_isSample_294 : decode cL_isSample 294 = .ok (.aload_n 0, 1) := by decide +kernel
theorem dL_isSample_295 : decode cL_isSample 295 = .ok (.iconst 4, 1) := by decide +kernel
theorem dL_isSample_296 : decode cL_isSample 296 = .ok (.invokevirtual 8, 3) := by decide +kernel
theorem dL_isSample_299 : decode cL_isSample 299 = .ok (.iload 9, 2) := by decide +kernel
theorem dL_isSample_301 : decode cL_isSample 301 = .ok (.iload 14, 2) := by decide +kernel
theorem dL_isSample_303 : decode cL_isSample 303 = .ok (.ifCond .eq 7, 3) := by decide +kernel
theorem dL_isSample_306 : decode cL_isSample 306 = .ok (.iconst 1, 1) := by decide +kernel
theorem dL_isSample_307 : decode cL_isSample 307 = .ok (.goto 4, 3) := by decide +kernel
theorem dL_isSample_310 : decode cL_isSample 310 = .ok (.iconst 0, 1) := by decide +kernel
theorem dL_isSample_311 : decode cL_isSample 311 = .ok (.iadd, 1) := by decide +kernel
theorem dL_isSample_312 : decode cL_isSample 312 = .ok (.if_icmp .ne 38, 3) := by decide +kernel
theorem dL_isSample_315 : decode cL_isSample 315 = .ok (.aload_n 0, 1) := by decide +kernel
theorem dL_isSample_316 : decode cL_isSample 316 = .ok (.iconst 5, 1) := by decide +kernel
theorem dL_isSample_317 : decode cL_isSample 317 = .ok (.invokevirtual 8, 3) := by decide +kernel
theorem dL_isSample_320 : decode cL_isSample 320 = .ok (.iload 10, 2) := by decide +kernel
theorem dL_isSample_322 : decode cL_isSample 322 = .ok (.if_icmp .ne 28, 3) := by decide +kernel
theorem dL_isSample_325 : decode cL_isSample 325 = .ok (.aload_n 0, 1) := by decide +kernel
theorem dL_isSample_326 : decode cL_isSample 326 = .ok (.iconst 2, 1) := by decide +kernel
theorem dL_isSample_327 : decode cL_isSample 327 = .ok (.invokevirtual 8, 3) := by decide +kernel
theorem dL_isSample_330 : decode cL_isSample 330 = .ok (.iload 15, 2) := by decide +kernel
theorem dL_isSample_332 : decode cL_isSample 332 = .ok (.ifCond .eq 10, 3) := by decide +kernel
theorem dL_isSample_335 : decode cL_isSample 335 = .ok (.iload 7, 2) := by decide +kernel
theorem dL_isSample_337 : decode cL_isSample 337 = .ok (.iconst 1, 1) := by decide +kernel
theorem dL_isSample_338 : decode cL_isSample 338 = .ok (.iadd, 1) := by decide +kernel
theorem dL_isSample_339 : decode cL_isSample 339 = .ok (.goto 4, 3) := by decide +kernel
theorem dL_isSample_342 : decode cL_isSample 342 = .ok (.iconst 0, 1) := by decide +kernel
theorem dL_isSample_343 : decode cL_isSample 343 = .ok (.if_icmp .ne 7, 3) := by decide +kernel
theorem dL_isSample_346 : decode cL_isSample 346 = .ok (.iconst 1, 1) := by decide +kernel
theorem dL_isSample_347 : decode cL_isSample 347 = .ok (.goto 4, 3) := by decide +kernel
theorem dL_isSample_350 : decode cL_isSample 350 = .ok (.iconst 0, 1) := by decide +kernel
theorem dL_isSample_351 : decode cL_isSample 351 = .ok (.istore 20, 2) := by decide +kernel
theorem dL_isSample_353 : decode cL_isSample 353 = .ok (.aload_n 0, 1) := by decide +kernel
theorem dL_isSample_354 : decode cL_isSample 354 = .ok (.bipush 10, 2) := by decide +kernel
theorem dL_isSample_356 : decode cL_isSample 356 = .ok (.invokevirtual 8, 3) := by decide +kernel
theorem dL_isSample_359 : decode cL_isSample 359 = .ok (.istore 21, 2) := by decide +kernel
theorem dL_isSample_361 : decode cL_isSample 361 = .ok (.iload 20, 2) := by decide +kernel
theorem dL_isSample_363 : decode cL_isSample 363 = .ok (.ifCond .eq 162, 3) := by decide +kernel
theorem dL_isSample_366 : decode cL_isSample 366 = .ok (.iload 8, 2) := by decide +kernel
theorem dL_isSample_368 : decode cL_isSample 368 = .ok (.ifCond .le 50, 3) := by decide +kernel
theorem dL_isSample_371 : decode cL_isSample 371 = .ok (.aload_n 0, 1) := by decide +kernel
theorem dL_isSample_372 : decode cL_isSample 372 = .ok (.bipush 9, 2) := by decide +kernel
theorem dL_isSample_374 : decode cL_isSample 374 = .ok (.invokevirtual 8, 3) := by decide +kernel
theorem dL_isSample_377 : decode cL_isSample 377 = .ok (.iload 11, 2) := by decide +kernel
theorem dL_isSample_379 : decode cL_isSample 379 = .ok (.iconst 1, 1) := by decide +kernel
theorem dL_isSample_380 : decode cL_isSample 380 = .ok (.iadd, 1) := by decide +kernel
theorem dL_isSample_381 : decode cL_isSample 381 = .ok (.if_icmp .ne 144, 3) := by decide +kernel
theorem dL_isSample_384 : decode cL_isSample 384 = .ok (.aload_n 0, 1) := by decide +kernel
theorem dL_isSample_385 : decode cL_isSample 385 = .ok (.iconst 1, 1) := by decide +kernel
theorem dL_isSample_386 : decode cL_isSample 386 = .ok (.invokevirtual 8, 3) := by decide +kernel
theorem dL_isSample_389 : decode cL_isSample 389 = .ok (.iload_n 3, 1) := by decide +kernel
theorem dL_isSample_390 : decode cL_isSample 390 = .ok (.if_icmp .ne 135, 3) := by decide +kernel
theorem dL_isSample_393 : decode cL_isSample 393 = .ok (.aload_n 0, 1) := by decide +kernel
theorem dL_isSample_394 : decode cL_isSample 394 = .ok (.iconst 0, 1) := by decide +kernel
theorem dL_isSample_395 : decode cL_isSample 395 = .ok (.iconst 0, 1) := by decide +kernel
theorem dL_isSample_396 : decode cL_isSample 396 = .ok (.invokevirtual 14, 3) := by decide +kernel
theorem dL_isSample_399 : decode cL_isSample 399 = .ok (.iload 12, 2) := by decide +kernel
theorem dL_isSample_401 : decode cL_isSample 401 = .ok (.if_icmp .ne 124, 3) := by decide +kernel
theorem dL_isSample_404 : decode cL_isSample 404 = .ok (.aload_n 0, 1) := by decide +kernel
theorem dL_isSample_405 : decode cL_isSample 405 = .ok (.iconst 1, 1) := by decide +kernel
theorem dL_isSample_406 : decode cL_isSample 406 = .ok (.iconst 0, 1) := by decide +kernel
theorem dL_isSample_407 : decode cL_isSample 407 = .ok (.invokevirtual 14, 3) := by decide +kernel
theorem dL_isSample_410 : decode cL_isSample 410 = .ok (.iload 13, 2) := by decide +kernel
theorem dL_isSample_412 : decode cL_isSample 412 = .ok (.if_icmp .ne 113, 3) := by decide +kernel
theorem dL_isSample_415 : decode cL_isSample 415 = .ok (.goto 106, 3) := by decide +kernel
theorem dL_isSample_418 : decode cL_isSample 418 = .ok (.aload_n 0, 1) := by decide +kernel
theorem dL_isSample_419 : decode cL_isSample 419 = .ok (.bipush 9, 2) := by decide +kernel
theorem dL_isSample_421 : decode cL_isSample 421 = .ok (.invokevirtual 8, 3) := by decide +kernel
theorem dL_isSample_424 : decode cL_isSample 424 = .ok (.iload 11, 2) := by decide +kernel
theorem dL_isSample_426 : decode cL_isSample 426 = .ok (.if_icmp .ne 99, 3) := by decide +kernel
theorem dL_isSample_429 : decode cL_isSample 429 = .ok (.aload_n 0, 1) := by decide +kernel
theorem dL_isSample_430 : decode cL_isSample 430 = .ok (.iconst 0, 1) := by decide +kernel
theorem dL_isSample_431 : decode cL_isSample 431 = .ok (.iconst 0, 1) := by decide +kernel
theorem dL_isSample_432 : decode cL_isSample 432 = .ok (.invokevirtual 14, 3) := by decide +kernel
theorem dL_isSample_435 : decode cL_isSample 435 = .ok (.iload 12, 2) := by decide +kernel
theorem dL_isSample_437 : decode cL_isSample 437 = .ok (.bipush 16, 2) := by decide +kernel
theorem dL_isSample_439 : decode cL_isSample 439 = .ok (.iload_n 1, 1) := by decide +kernel
theorem dL_isSample_440 : decode cL_isSample 440 = .ok (.imul, 1) := by decide +kernel
theorem dL_isSample_441 : decode cL_isSample 441 = .ok (.iload 12, 2) := by decide +kernel
theorem dL_isSample_443 : decode cL_isSample 443 = .ok (.isub, 1) := by decide +kernel
theorem dL_isSample_444 : decode cL_isSample 444 = .ok (.iload 21, 2) := by decide +kernel
theorem dL_isSample_446 : decode cL_isSample 446 = .ok (.idiv, 1) := by decide +kernel
theorem dL_isSample_447 : decode cL_isSample 447 = .ok (.iadd, 1) := by decide +kernel
theorem dL_isSample_448 : decode cL_isSample 448 = .ok (.if_icmp .ne 77, 3) := by decide +kernel
theorem dL_isSample_451 : decode cL_isSample 451 = .ok (.aload_n 0, 1) := by decide +kernel
theorem dL_isSample_452 : decode cL_isSample 452 = .ok (.iconst 1, 1) := by decide +kernel
theorem dL_isSample_453 : decode cL_isSample 453 = .ok (.iconst 0, 1) := by decide +kernel
theorem dL_isSample_454 : decode cL_isSample 454 = .ok (.invokevirtual 14, 3) := by decide +kernel
theorem dL_isSample_457 : decode cL_isSample 457 = .ok (.iload 13, 2) := by decide +kernel
theorem dL_isSample_459 : decode cL_isSample 459 = .ok (.bipush 16, 2) := by decide +kernel
theorem dL_isSample_461 : decode cL_isSample 461 = .ok (.iload_n 2, 1) := by decide +kernel
theorem dL_isSample_462 : decode cL_isSample 462 = .ok (.imul, 1) := by decide +kernel
theorem dL_isSample_463 : decode cL_isSample 463 = .ok (.iload 13, 2) := by decide +kernel
theorem dL_isSample_465 : decode cL_isSample 465 = .ok (.isub, 1) := by decide +kernel
theorem dL_isSample_466 : decode cL_isSample 466 = .ok (.iload 21, 2) := by decide +kernel
theorem dL_isSample_468 : decode cL_isSample 468 = .ok (.idiv, 1) := by decide +kernel
theorem dL_isSample_469 : decode cL_isSample 469 = .ok (.iadd, 1) := by decide +kernel
theorem dL_isSample_470 : decode cL_isSample 470 = .ok (.if_icmp .ne 55, 3) := by decide +kernel
theorem dL_isSample_473 : decode cL_isSample 473 = .ok (.aload_n 0, 1) := by decide +kernel
theorem dL_isSample_474 : decode cL_isSample 474 = .ok (.iconst 1, 1) := by decide +kernel
theorem dL_isSample_475 : decode cL_isSample 475 = .ok (.invokevirtual 8, 3) := by decide +kernel
theorem dL_isSample_478 : decode cL_isSample 478 = .ok (.iload_n 3, 1) := by decide +kernel
theorem dL_isSample_479 : decode cL_isSample 479 = .ok (.isub, 1) := by decide +kernel
theorem dL_isSample_480 : decode cL_isSample 480 = .ok (.invokestatic 18, 3) := by decide +kernel
theorem dL_isSample_483 : decode cL_isSample 483 = .ok (.iconst 2, 1) := by decide +kernel
theorem dL_isSample_484 : decode cL_isSample 484 = .ok (.if_icmp .ge 41, 3) := by decide +kernel
theorem dL_isSample_487 : decode cL_isSample 487 = .ok (.iconst 2, 1) := by decide +kernel
theorem dL_isSample_488 : decode cL_isSample 488 = .ok (.iload 6, 2) := by decide +kernel
theorem dL_isSample_490 : decode cL_isSample 490 = .ok (.imul, 1) := by decide +kernel
theorem dL_isSample_491 : decode cL_isSample 491 = .ok (.iload_n 3, 1) := by decide +kernel
theorem dL_isSample_492 : decode cL_isSample 492 = .ok (.if_icmp .le 12, 3) := by decide +kernel
theorem dL_isSample_495 : decode cL_isSample 495 = .ok (.aload_n 0, 1) := by decide +kernel
theorem dL_isSample_496 : decode cL_isSample 496 = .ok (.iconst 1, 1) := by decide +kernel
theorem dL_isSample_497 : decode cL_isSample 497 = .ok (.invokevirtual 8, 3) := by decide +kernel
theorem dL_isSample_500 : decode cL_isSample 500 = .ok (.iload_n 3, 1) := by decide +kernel
theorem dL_isSample_501 : decode cL_isSample 501 = .ok (.if_icmp .lt 24, 3) := by decide +kernel
theorem dL_isSample_504 : decode cL_isSample 504 = .ok (.iconst 4, 1) := by decide +kernel
theorem dL_isSample_505 : decode cL_isSample 505 = .ok (.iload 6, 2) := by decide +kernel
theorem dL_isSample_507 : decode cL_isSample 507 = .ok (.imul, 1) := by decide +kernel
theorem dL_isSample_508 : decode cL_isSample 508 = .ok (.iload_n 3, 1) := by decide +kernel
theorem dL_isSample_509 : decode cL_isSample 509 = .ok (.if_icmp .gt 12, 3) := by decide +kernel
theorem dL_isSample_512 : decode cL_isSample 512 = .ok (.aload_n 0, 1) := by decide +kernel
theorem dL_isSample_513 : decode cL_isSample 513 = .ok (.iconst 1, 1) := by decide +kernel
theorem dL_isSample_514 : decode cL_isSample 514 = .ok (.invokevirtual 8, 3) := by decide +kernel
theorem dL_isSample_517 : decode cL_isSample 517 = .ok (.iload_n 3, 1) := by decide +kernel
theorem dL_isSample_518 : decode cL_isSample 518 = .ok (.if_icmp .gt 7, 3) := by decide +kernel
theorem dL_isSample_521 : decode cL_isSample 521 = .ok (.iconst 1, 1) := by decide +kernel
theorem dL_isSample_522 : decode cL_isSample 522 = .ok (.goto 4, 3) := by decide +kernel
theorem dL_isSample_525 : decode cL_isSample 525 = .ok (.iconst 0, 1) := by decide +kernel
theorem dL_isSample_526 : decode cL_isSample 526 = .ok (.ireturn, 1) := by decide +kernel
theorem dL_isSample_527 : decode cL_isSample 527 = .ok (.iload 8, 2) := by decide +kernel
theorem dL_isSample_529 : decode cL_isSample 529 = .ok (.ifCond .ne 38, 3) := by decide +kernel
theorem dL_isSample_532 : decode cL_isSample 532 = .ok (.iload 15, 2) := by decide +kernel
theorem dL_isSample_534 : decode cL_isSample 534 = .ok (.ifCond .eq 10, 3) := by decide +kernel
theorem dL_isSample_537 : decode cL_isSample 537 = .ok (.iload 7, 2) := by decide +kernel
theorem dL_isSample_539 : decode cL_isSample 539 = .ok (.iconst 1, 1) := by decide +kernel
theorem dL_isSample_540 : decode cL_isSample 540 = .ok (.iadd, 1) := by decide +kernel
theorem dL_isSample_541 : decode cL_isSample 541 = .ok (.goto 4, 3) := by decide +kernel
theorem dL_isSample_544 : decode cL_isSample 544 = .ok (.iconst 0, 1) := by decide +kernel
theorem dL_isSample_545 : decode cL_isSample 545 = .ok (.aload_n 0, 1) := by decide +kernel
theorem dL_isSample_546 : decode cL_isSample 546 = .ok (.bipush 15, 2) := by decide +kernel
theorem dL_isSample_548 : decode cL_isSample 548 = .ok (.invokevirtual 8, 3) := by decide +kernel
theorem dL_isSample_551 : decode cL_isSample 551 = .ok (.if_icmp .lt 16, 3) := by decide +kernel
theorem dL_isSample_554 : decode cL_isSample 554 = .ok (.iload 6, 2) := by decide +kernel
theorem dL_isSample_556 : decode cL_isSample 556 = .ok (.iload_n 3, 1) := by decide +kernel
theorem dL_isSample_557 : decode cL_isSample 557 = .ok (.bipush 8, 2) := by decide +kernel
theorem dL_isSample_559 : decode cL_isSample 559 = .ok (.iadd, 1) := by decide +kernel
theorem dL_isSample_560 : decode cL_isSample 560 = .ok (.if_icmp .gt 7, 3) := by decide +kernel
theorem dL_isSample_563 : decode cL_isSample 563 = .ok (.iconst 1, 1) := by decide +kernel
theorem dL_isSample_564 : decode cL_isSample 564 = .ok (.goto 4, 3) := by decide +kernel
theorem dL_isSample_567 : decode cL_isSample 567 = .ok (.iconst 0, 1) := by decide +kernel
theorem dL_isSample_568 : decode cL_isSample 568 = .ok (.istore 20, 2) := by decide +kernel
theorem dL_isSample_570 : decode cL_isSample 570 = .ok (.aload_n 0, 1) := by decide +kernel
theorem dL_isSample_571 : decode cL_isSample 571 = .ok (.iconst 4, 1) := by decide +kernel
theorem dL_isSample_572 : decode cL_isSample 572 = .ok (.invokevirtual 8, 3) := by decide +kernel
theorem dL_isSample_575 : decode cL_isSample 575 = .ok (.iload 9, 2) := by decide +kernel
theorem dL_isSample_577 : decode cL_isSample 577 = .ok (.if_icmp .ne 48, 3) := by decide +kernel
theorem dL_isSample_580 : decode cL_isSample 580 = .ok (.aload_n 0, 1) := by decide +kernel
theorem dL_isSample_581 : decode cL_isSample 581 = .ok (.bipush 9, 2) := by decide +kernel
theorem dL_isSample_583 : decode cL_isSample 583 = .ok (.invokevirtual 8, 3) := by decide +kernel
theorem dL_isSample_586 : decode cL_isSample 586 = .ok (.iload 11, 2) := by decide +kernel
theorem dL_isSample_588 : decode cL_isSample 588 = .ok (.if_icmp .ne 37, 3) := by decide +kernel
theorem dL_isSample_591 : decode cL_isSample 591 = .ok (.aload_n 0, 1) := by decide +kernel
theorem dL_isSample_592 : decode cL_isSample 592 = .ok (.iconst 1, 1) := by decide +kernel
theorem dL_isSample_593 : decode cL_isSample 593 = .ok (.invokevirtual 8, 3) := by decide +kernel
theorem dL_isSample_596 : decode cL_isSample 596 = .ok (.iload_n 3, 1) := by decide +kernel
theorem dL_isSample_597 : decode cL_isSample 597 = .ok (.if_icmp .ne 28, 3) := by decide +kernel
theorem dL_isSample_600 : decode cL_isSample 600 = .ok (.aload_n 0, 1) := by decide +kernel
theorem dL_isSample_601 : decode cL_isSample 601 = .ok (.iconst 5, 1) := by decide +kernel
theorem dL_isSample_602 : decode cL_isSample 602 = .ok (.invokevirtual 8, 3) := by decide +kernel
theorem dL_isSample_605 : decode cL_isSample 605 = .ok (.iload 10, 2) := by decide +kernel
theorem dL_isSample_607 : decode cL_isSample 607 = .ok (.iload 20, 2) := by decide +kernel
theorem dL_isSample_609 : decode cL_isSample 609 = .ok (.ifCond .eq 7, 3) := by decide +kernel
theorem dL_isSample_612 : decode cL_isSample 612 = .ok (.iconst 1, 1) := by decide +kernel
theorem dL_isSample_613 : decode cL_isSample 613 = .ok (.goto 4, 3) := by decide +kernel
theorem dL_isSample_616 : decode cL_isSample 616 = .ok (.iconst 0, 1) := by decide +kernel
theorem dL_isSample_617 : decode cL_isSample 617 = .ok (.iadd, 1) := by decide +kernel
theorem dL_isSample_618 : decode cL_isSample 618 = .ok (.if_icmp .ne 7, 3) := by decide +kernel
theorem dL_isSample_621 : decode cL_isSample 621 = .ok (.iconst 1, 1) := by decide +kernel
theorem dL_isSample_622 : decode cL_isSample 622 = .ok (.goto 4, 3) := by decide +kernel
theorem dL_isSample_625 : decode cL_isSample 625 = .ok (.iconst 0, 1) := by decide +kernel
theorem dL_isSample_626 : decode cL_isSample 626 = .ok (.istore 21, 2) := by decide +kernel
theorem dL_isSample_628 : decode cL_isSample 628 = .ok (.iload 20, 2) := by decide +kernel
theorem dL_isSample_630 : decode cL_isSample 630 = .ok (.ifCond .eq 58, 3) := by decide +kernel
theorem dL_isSample_633 : decode cL_isSample 633 = .ok (.iload 21, 2) := by decide +kernel
theorem dL_isSample_635 : decode cL_isSample 635 = .ok (.ifCond .eq 51, 3) := by decide +kernel
theorem dL_isSample_638 : decode cL_isSample 638 = .ok (.iload 18, 2) := by decide +kernel
theorem dL_isSample_640 : decode cL_isSample 640 = .ok (.ifCond .ne 46, 3) := by decide +kernel
theorem dL_isSample_643 : decode cL_isSample 643 = .ok (.iload 19, 2) := by decide +kernel
theorem dL_isSample_645 : decode cL_isSample 645 = .ok (.ifCond .ne 41, 3) := by decide +kernel
theorem dL_isSample_648 : decode cL_isSample 648 = .ok (.aload_n 0, 1) := by decide +kernel
theorem dL_isSample_649 : decode cL_isSample 649 = .ok (.iconst 0, 1) := by decide +kernel
theorem dL_isSample_650 : decode cL_isSample 650 = .ok (.iconst 0, 1) := by decide +kernel
theorem dL_isSample_651 : decode cL_isSample 651 = .ok (.invokevirtual 14, 3) := by decide +kernel
theorem dL_isSample_654 : decode cL_isSample 654 = .ok (.bipush 16, 2) := by decide +kernel
theorem dL_isSample_656 : decode cL_isSample 656 = .ok (.iload_n 1, 1) := by decide +kernel
theorem dL_isSample_657 : decode cL_isSample 657 = .ok (.imul, 1) := by decide +kernel
theorem dL_isSample_658 : decode cL_isSample 658 = .ok (.if_icmp .ne 28, 3) := by decide +kernel
theorem dL_isSample_661 : decode cL_isSample 661 = .ok (.aload_n 0, 1) := by decide +kernel
theorem dL_isSample_662 : decode cL_isSample 662 = .ok (.iconst 1, 1) := by decide +kernel
theorem dL_isSample_663 : decode cL_isSample 663 = .ok (.iconst 0, 1) := by decide +kernel
theorem dL_isSample_664 : decode cL_isSample 664 = .ok (.invokevirtual 14, 3) := by decide +kernel
theorem dL_isSample_667 : decode cL_isSample 667 = .ok (.bipush 16, 2) := by decide +kernel
theorem dL_isSample_669 : decode cL_isSample 669 = .ok (.iload_n 2, 1) := by decide +kernel
theorem dL_isSample_670 : decode cL_isSample 670 = .ok (.imul, 1) := by decide +kernel
theorem dL_isSample_671 : decode cL_isSample 671 = .ok (.if_icmp .ne 15, 3) := by decide +kernel
theorem dL_isSample_674 : decode cL_isSample 674 = .ok (.aload_n 0, 1) := by decide +kernel
theorem dL_isSample_675 : decode cL_isSample 675 = .ok (.iconst 2, 1) := by decide +kernel
theorem dL_isSample_676 : decode cL_isSample 676 = .ok (.invokevirtual 8, 3) := by decide +kernel
theorem dL_isSample_679 : decode cL_isSample 679 = .ok (.ifCond .ne 7, 3) := by decide +kernel
theorem dL_isSample_682 : decode cL_isSample 682 = .ok (.iconst 1, 1) := by decide +kernel
theorem dL_isSample_683 : decode cL_isSample 683 = .ok (.goto 4, 3) := by decide +kernel
theorem dL_isSample_686 : decode cL_isSample 686 = .ok (.iconst 0, 1) := by decide +kernel
theorem dL_isSample_687 : decode cL_isSample 687 = .ok (.ireturn, 1) := by decide +kernel
theorem dL_isSample_688 : decode cL_isSample 688 = .ok (.iload 21, 2) := by decide +kernel
theorem dL_isSample_690 : decode cL_isSample 690 = .ok (.ifCond .eq 73, 3) := by decide +kernel
theorem dL_isSample_693 : decode cL_isSample 693 = .ok (.aload_n 0, 1) := by decide +kernel
theorem dL_isSample_694 : decode cL_isSample 694 = .ok (.iconst 0, 1) := by decide +kernel
theorem dL_isSample_695 : decode cL_isSample 695 = .ok (.iconst 0, 1) := by decide +kernel
theorem dL_isSample_696 : decode cL_isSample 696 = .ok (.invokevirtual 14, 3) := by decide +kernel
theorem dL_isSample_699 : decode cL_isSample 699 = .ok (.iload 12, 2) := by decide +kernel
theorem dL_isSample_701 : decode cL_isSample 701 = .ok (.if_icmp .ne 62, 3) := by decide +kernel
theorem dL_isSample_704 : decode cL_isSample 704 = .ok (.aload_n 0, 1) := by decide +kernel
theorem dL_isSample_705 : decode cL_isSample 705 = .ok (.iconst 1, 1) := by decide +kernel
theorem dL_isSample_706 : decode cL_isSample 706 = .ok (.iconst 0, 1) := by decide +kernel
theorem dL_isSample_707 : decode cL_isSample 707 = .ok (.invokevirtual 14, 3) := by decide +kernel
theorem dL_isSample_710 : decode cL_isSample 710 = .ok (.iload 13, 2) := by decide +kernel
theorem dL_isSample_712 : decode cL_isSample 712 = .ok (.if_icmp .ne 51, 3) := by decide +kernel
theorem dL_isSample_715 : decode cL_isSample 715 = .ok (.iload 18, 2) := by decide +kernel
theorem dL_isSample_717 : decode cL_isSample 717 = .ok (.iload 4, 2) := by decide +kernel
theorem dL_isSample_719 : decode cL_isSample 719 = .ok (.imul, 1) := by decide +kernel
theorem dL_isSample_720 : decode cL_isSample 720 = .ok (.ifCond .lt 43, 3) := by decide +kernel
theorem dL_isSample_723 : decode cL_isSample 723 = .ok (.iload 19, 2) := by decide +kernel
theorem dL_isSample_725 : decode cL_isSample 725 = .ok (.iload 5, 2) := by decide +kernel
theorem dL_isSample_727 : decode cL_isSample 727 = .ok (.imul, 1) := by decide +kernel
theorem dL_isSample_728 : decode cL_isSample 728 = .ok (.ifCond .lt 35, 3) := by decide +kernel
theorem dL_isSample_731 : decode cL_isSample 731 = .ok (.iload 4, 2) := by decide +kernel
theorem dL_isSample_733 : decode cL_isSample 733 = .ok (.invokestatic 18, 3) := by decide +kernel
theorem dL_isSample_736 : decode cL_isSample 736 = .ok (.iload_n 3, 1) := by decide +kernel
theorem dL_isSample_737 : decode cL_isSample 737 = .ok (.if_icmp .gt 8, 3) := by decide +kernel
theorem dL_isSample_740 : decode cL_isSample 740 = .ok (.iload 18, 2) := by decide +kernel
theorem dL_isSample_742 : decode cL_isSample 742 = .ok (.ifCond .ne 21, 3) := by decide +kernel
theorem dL_isSample_745 : decode cL_isSample 745 = .ok (.iload 5, 2) := by decide +kernel
theorem dL_isSample_747 : decode cL_isSample 747 = .ok (.invokestatic 18, 3) := by decide +kernel
theorem dL_isSample_750 : decode cL_isSample 750 = .ok (.iload_n 3, 1) := by decide +kernel
theorem dL_isSample_751 : decode cL_isSample 751 = .ok (.if_icmp .gt 8, 3) := by decide +kernel
theorem dL_isSample_754 : decode cL_isSample 754 = .ok (.iload 19, 2) := by decide +kernel
theorem dL_isSample_756 : decode cL_isSample 756 = .ok (.ifCond .ne 7, 3) := by decide +kernel
theorem dL_isSample_759 : decode cL_isSample 759 = .ok (.iconst 1, 1) := by decide +kernel
theorem dL_isSample_760 : decode cL_isSample 760 = .ok (.goto 4, 3) := by decide +kernel
theorem dL_isSample_763 : decode cL_isSample 763 = .ok (.iconst 0, 1) := by decide +kernel
theorem dL_isSample_764 : decode cL_isSample 764 = .ok (.istore 21, 2) := by decide +kernel
theorem dL_isSample_766 : decode cL_isSample 766 = .ok (.iload 21, 2) := by decide +kernel
theorem dL_isSample_768 : decode cL_isSample 768 = .ok (.ifCond .eq 59, 3) := by decide +kernel
theorem dL_isSample_771 : decode cL_isSample 771 = .ok (.iload 4, 2) := by decide +kernel
theorem dL_isSample_773 : decode cL_isSample 773 = .ok (.invokestatic 18, 3) := by decide +kernel
theorem dL_isSample_776 : decode cL_isSample 776 = .ok (.iload 5, 2) := by decide +kernel
theorem dL_isSample_778 : decode cL_isSample 778 = .ok (.invokestatic 18, 3) := by decide +kernel
theorem dL_isSample_781 : decode cL_isSample 781 = .ok (.if_icmp .lt 16, 3) := by decide +kernel
theorem dL_isSample_784 : decode cL_isSample 784 = .ok (.iload 18, 2) := by decide +kernel
theorem dL_isSample_786 : decode cL_isSample 786 = .ok (.invokestatic 18, 3) := by decide +kernel
theorem dL_isSample_789 : decode cL_isSample 789 = .ok (.iload 19, 2) := by decide +kernel
theorem dL_isSample_791 : decode cL_isSample 791 = .ok (.invokestatic 18, 3) := by decide +kernel
theorem dL_isSample_794 : decode cL_isSample 794 = .ok (.if_icmp .lt 33, 3) := by decide +kernel
theorem dL_isSample_797 : decode cL_isSample 797 = .ok (.iload 5, 2) := by decide +kernel
theorem dL_isSample_799 : decode cL_isSample 799 = .ok (.invokestatic 18, 3) := by decide +kernel
theorem dL_isSample_802 : decode cL_isSample 802 = .ok (.iload 4, 2) := by decide +kernel
theorem dL_isSample_804 : decode cL_isSample 804 = .ok (.invokestatic 18, 3) := by decide +kernel
theorem dL_isSample_807 : decode cL_isSample 807 = .ok (.if_icmp .lt 16, 3) := by decide +kernel
theorem dL_isSample_810 : decode cL_isSample 810 = .ok (.iload 19, 2) := by decide +kernel
theorem dL_isSample_812 : decode cL_isSample 812 = .ok (.invokestatic 18, 3) := by decide +kernel
theorem dL_isSample_815 : decode cL_isSample 815 = .ok (.iload 18, 2) := by decide +kernel
theorem dL_isSample_817 : decode cL_isSample 817 = .ok (.invokestatic 18, 3) := by decide +kernel
theorem dL_isSample_820 : decode cL_isSample 820 = .ok (.if_icmp .lt 7, 3) := by decide +kernel
theorem dL_isSample_823 : decode cL_isSample 823 = .ok (.iconst 1, 1) := by decide +kernel
theorem dL_isSample_824 : decode cL_isSample 824 = .ok (.goto 4, 3) := by decide +kernel
theorem dL_isSample_827 : decode cL_isSample 827 = .ok (.iconst 0, 1) := by decide +kernel
theorem dL_isSample_828 : decode cL_isSample 828 = .ok (.ireturn, 1) := by decide +kernel
theorem dL_isIn_0 : decode cL_isIn 0 = .ok (.aload_n 0, 1) := by decide +kernel
theorem dL_isIn_1 : decode cL_isIn 1 = .ok (.iload_n 1, 1) := by decide +kernel
theorem dL_isIn_2 : decode cL_isIn 2 = .ok (.iload_n 2, 1) := by decide +kernel
theorem dL_isIn_3 : decode cL_isIn 3 = .ok (.invokevirtual 35, 3) := by decide +kernel
theorem dL_isIn_6 : decode cL_isIn 6 = .ok (.istore_n 3, 1) := by decide +kernel
theorem dL_isIn_7 : decode cL_isIn 7 = .ok (.aload_n 0, 1) := by decide +kernel
theorem dL_isIn_8 : decode cL_isIn 8 = .ok (.iload_n 1, 1) := by decide +kernel
theorem dL_isIn_9 : decode cL_isIn 9 = .ok (.iload_n 2, 1) := by decide +kernel
theorem dL_isIn_10 : decode cL_isIn 10 = .ok (.invokevirtual 38, 3) := by decide +kernel
theorem dL_isIn_13 : decode cL_isIn 13 = .ok (.istore 4, 2) := by decide +kernel
theorem dL_isIn_15 : decode cL_isIn 15 = .ok (.aload_n 0, 1) := by decide +kernel
theorem dL_isIn_16 : decode cL_isIn 16 = .ok (.iconst 5, 1) := by decide +kernel
theorem dL_isIn_17 : decode cL_isIn 17 = .ok (.invokevirtual 8, 3) := by decide +kernel
theorem dL_isIn_20 : decode cL_isIn 20 = .ok (.istore 5, 2) := by decide +kernel
theorem dL_isIn_22 : decode cL_isIn 22 = .ok (.aload_n 0, 1) := by decide +kernel
theorem dL_isIn_23 : decode cL_isIn 23 = .ok (.iconst 1, 1) := by decide +kernel
theorem dL_isIn_24 : decode cL_isIn 24 = .ok (.invokevirtual 41, 3) := by decide +kernel
theorem dL_isIn_27 : decode cL_isIn 27 = .ok (.istore 6, 2) := by decide +kernel
theorem dL_isIn_29 : decode cL_isIn 29 = .ok (.iconst 0, 1) := by decide +kernel
theorem dL_isIn_30 : decode cL_isIn 30 = .ok (.istore 7, 2) := by decide +kernel
theorem dL_isIn_32 : decode cL_isIn 32 = .ok (.iconst (-1), 1) := by decide +kernel
theorem dL_isIn_33 : decode cL_isIn 33 = .ok (.istore 8, 2) := by decide +kernel
theorem dL_isIn_35 : decode cL_isIn 35 = .ok (.iload 6, 2) := by decide +kernel
theorem dL_isIn_37 : decode cL_isIn 37 = .ok (.aload_n 0, 1) := by decide +kernel
theorem dL_isIn_38 : decode cL_isIn 38 = .ok (.iconst 0, 1) := by decide +kernel
theorem dL_isIn_39 : decode cL_isIn 39 = .ok (.invokevirtual 8, 3) := by decide +kernel
theorem dL_isIn_42 : decode cL_isIn 42 = .ok (.if_icmp .ne 7, 3) := by decide +kernel
theorem dL_isIn_45 : decode cL_isIn 45 = .ok (.iconst 1, 1) := by decide +kernel
theorem dL_isIn_46 : decode cL_isIn 46 = .ok (.goto 4, 3) := by decide +kernel
theorem dL_isIn_49 : decode cL_isIn 49 = .ok (.iconst 0, 1) := by decide +kernel
theorem dL_isIn_50 : decode cL_isIn 50 = .ok (.istore 9, 2) := by decide +kernel
theorem dL_isIn_52 : decode cL_isIn 52 = .ok (.iconst 0, 1) := by decide +kernel
theorem dL_isIn_53 : decode cL_isIn 53 = .ok (.istore 10, 2) := by decide +kernel
theorem dL_isIn_55 : decode cL_isIn 55 = .ok (.iload 10, 2) := by decide +kernel
theorem dL_isIn_57 : decode cL_isIn 57 = .ok (.bipush 60, 2) := by decide +kernel
theorem dL_isIn_59 : decode cL_isIn 59 = .ok (.if_icmp .gt 171, 3) := by decide +kernel
theorem dL_isIn_62 : decode cL_isIn 62 = .ok (.iload_n 1, 1) := by decide +kernel
theorem dL_isIn_63 : decode cL_isIn 63 = .ok (.aload_n 0, 1) := by decide +kernel
theorem dL_isIn_64 : decode cL_isIn 64 = .ok (.iconst 0, 1) := by decide +kernel
theorem dL_isIn_65 : decode cL_isIn 65 = .ok (.iconst 0, 1) := by decide +kernel
theorem dL_isIn_66 : decode cL_isIn 66 = .ok (.invokevirtual 14, 3) := by decide +kernel
theorem dL_isIn_69 : decode cL_isIn 69 = .ok (.bipush 16, 2) := by decide +kernel
theorem dL_isIn_71 : decode cL_isIn 71 = .ok (.idiv, 1) := by decide +kernel
theorem dL_isIn_72 : decode cL_isIn 72 = .ok (.if_icmp .ne 20, 3) := by decide +kernel
theorem dL_isIn_75 : decode cL_isIn 75 = .ok (.iload_n 2, 1) := by decide +kernel
theorem dL_isIn_76 : decode cL_isIn 76 = .ok (.aload_n 0, 1) := by decide +kernel
theorem dL_isIn_77 : decode cL_isIn 77 = .ok (.iconst 1, 1) := by decide +kernel
theorem dL_isIn_78 : decode cL_isIn 78 = .ok (.iconst 0, 1) := by decide +kernel
theorem dL_isIn_79 : decode cL_isIn 79 = .ok (.invokevirtual 14, 3) := by decide +kernel
theorem dL_isIn_82 : decode cL_isIn 82 = .ok (.bipush 16, 2) := by decide +kernel
theorem dL_isIn_84 : decode cL_isIn 84 = .ok (.idiv, 1) := by decide +kernel
theorem dL_isIn_85 : decode cL_isIn 85 = .ok (.if_icmp .ne 7, 3) := by decide +kernel
theorem dL_isIn_88 : decode cL_isIn 88 = .ok (.iconst 1, 1) := by decide +kernel
theorem dL_isIn_89 : decode cL_isIn 89 = .ok (.goto 4, 3) := by decide +kernel
theorem dL_isIn_92 : decode cL_isIn 92 = .ok (.iconst 0, 1) := by decide +kernel
theorem dL_isIn_93 : decode cL_isIn 93 = .ok (.istore 11, 2) := by decide +kernel
theorem dL_isIn_95 : decode cL_isIn 95 = .ok (.iload 9, 2) := by decide +kernel
theorem dL_isIn_97 : decode cL_isIn 97 = .ok (.ifCond .eq 42, 3) := by decide +kernel
theorem dL_isIn_100 : decode cL_isIn 100 = .ok (.iload 11, 2) := by decide +kernel
theorem dL_isIn_102 : decode cL_isIn 102 = .ok (.ifCond .eq 27, 3) := by decide +kernel
theorem dL_isIn_105 : decode cL_isIn 105 = .ok (.iload_n 3, 1) := by decide +kernel
theorem dL_isIn_106 : decode cL_isIn 106 = .ok (.ifCond .lt 33, 3) := by decide +kernel
theorem dL_isIn_109 : decode cL_isIn 109 = .ok (.iload_n 3, 1) := by decide +kernel
theorem dL_isIn_110 : decode cL_isIn 110 = .ok (.iload 10, 2) := by decide +kernel
theorem dL_isIn_112 : decode cL_isIn 112 = .ok (.if_icmp .eq 23, 3) := by decide +kernel
theorem dL_isIn_115 : decode cL_isIn 115 = .ok (.iload 8, 2) := by decide +kernel
theorem dL_isIn_117 : decode cL_isIn 117 = .ok (.ifCond .lt 22, 3) := by decide +kernel
theorem dL_isIn_120 : decode cL_isIn 120 = .ok (.iload_n 3, 1) := by decide +kernel
theorem dL_isIn_121 : decode cL_isIn 121 = .ok (.iload 8, 2) := by decide +kernel
theorem dL_isIn_123 : decode cL_isIn 123 = .ok (.if_icmp .ne 16, 3) := by decide +kernel
theorem dL_isIn_126 : decode cL_isIn 126 = .ok (.goto 9, 3) := by decide +kernel
theorem dL_isIn_129 : decode cL_isIn 129 = .ok (.iload_n 3, 1) := by decide +kernel
theorem dL_isIn_130 : decode cL_isIn 130 = .ok (.iload 10, 2) := by decide +kernel
theorem dL_isIn_132 : decode cL_isIn 132 = .ok (.if_icmp .eq 7, 3) := by decide +kernel
theorem dL_isIn_135 : decode cL_isIn 135 = .ok (.iconst 1, 1) := by decide +kernel
theorem dL_isIn_136 : decode cL_isIn 136 = .ok (.goto 4, 3) := by decide +kernel
theorem dL_isIn_139 : decode cL_isIn 139 = .ok (.iconst 0, 1) := by decide +kernel
theorem dL_isIn_140 : decode cL_isIn 140 = .ok (.istore 9, 2) := by decide +kernel
theorem dL_isIn_142 : decode cL_isIn 142 = .ok (.iload 11, 2) := by decide +kernel
theorem dL_isIn_144 : decode cL_isIn 144 = .ok (.ifCond .eq 13, 3) := by decide +kernel
theorem dL_isIn_147 : decode cL_isIn 147 = .ok (.iload 8, 2) := by decide +kernel
theorem dL_isIn_149 : decode cL_isIn 149 = .ok (.ifCond .ge 8, 3) := by decide +kernel
theorem dL_isIn_152 : decode cL_isIn 152 = .ok (.iload 10, 2) := by decide +kernel
theorem dL_isIn_154 : decode cL_isIn 154 = .ok (.goto 5, 3) := by decide +kernel
theorem dL_isIn_157 : decode cL_isIn 157 = .ok (.iload 8, 2) := by decide +kernel
theorem dL_isIn_159 : decode cL_isIn 159 = .ok (.istore 8, 2) := by decide +kernel
theorem dL_isIn_161 : decode cL_isIn 161 = .ok (.aload_n 0, 1) := by decide +kernel
theorem dL_isIn_162 : decode cL_isIn 162 = .ok (.iload_n 1, 1) := by decide +kernel
theorem dL_isIn_163 : decode cL_isIn 163 = .ok (.iload_n 2, 1) := by decide +kernel
theorem dL_isIn_164 : decode cL_isIn 164 = .ok (.invokevirtual 32, 3) := by decide +kernel
theorem dL_isIn_167 : decode cL_isIn 167 = .ok (.istore 12, 2) := by decide +kernel
theorem dL_isIn_169 : decode cL_isIn 169 = .ok (.iinc 7 1, 3) := by decide +kernel
theorem dL_isIn_172 : decode cL_isIn 172 = .ok (.iload 9, 2) := by decide +kernel
theorem dL_isIn_174 : decode cL_isIn 174 = .ok (.ifCond .eq 47, 3) := by decide +kernel
theorem dL_isIn_177 : decode cL_isIn 177 = .ok (.iload 12, 2) := by decide +kernel
theorem dL_isIn_179 : decode cL_isIn 179 = .ok (.ifCond .lt 42, 3) := by decide +kernel
theorem dL_isIn_182 : decode cL_isIn 182 = .ok (.aload_n 0, 1) := by decide +kernel
theorem dL_isIn_183 : decode cL_isIn 183 = .ok (.iconst 5, 1) := by decide +kernel
theorem dL_isIn_184 : decode cL_isIn 184 = .ok (.invokevirtual 8, 3) := by decide +kernel
theorem dL_isIn_187 : decode cL_isIn 187 = .ok (.iload 5, 2) := by decide +kernel
theorem dL_isIn_189 : decode cL_isIn 189 = .ok (.if_icmp .le 7, 3) := by decide +kernel
theorem dL_isIn_192 : decode cL_isIn 192 = .ok (.iconst 1, 1) := by decide +kernel
theorem dL_isIn_193 : decode cL_isIn 193 = .ok (.goto 4, 3) := by decide +kernel
theorem dL_isIn_196 : decode cL_isIn 196 = .ok (.iconst 0, 1) := by decide +kernel
theorem dL_isIn_197 : decode cL_isIn 197 = .ok (.iload 4, 2) := by decide +kernel
theorem dL_isIn_199 : decode cL_isIn 199 = .ok (.ifCond .le 14, 3) := by decide +kernel
theorem dL_isIn_202 : decode cL_isIn 202 = .ok (.iload 7, 2) := by decide +kernel
theorem dL_isIn_204 : decode cL_isIn 204 = .ok (.iload 4, 2) := by decide +kernel
theorem dL_isIn_206 : decode cL_isIn 206 = .ok (.if_icmp .lt 7, 3) := by decide +kernel
theorem dL_isIn_209 : decode cL_isIn 209 = .ok (.iconst 1, 1) := by decide +kernel
theorem dL_isIn_210 : decode cL_isIn 210 = .ok (.goto 4, 3) := by decide +kernel
theorem dL_isIn_213 : decode cL_isIn 213 = .ok (.iconst 0, 1) := by decide +kernel
theorem dL_isIn_214 : decode cL_isIn 214 = .ok (.if_icmp .ne 7, 3) := by decide +kernel
theorem dL_isIn_217 : decode cL_isIn 217 = .ok (.iconst 1, 1) := by decide +kernel
theorem dL_isIn_218 : decode cL_isIn 218 = .ok (.goto 4, 3) := by decide +kernel
theorem dL_isIn_221 : decode cL_isIn 221 = .ok (.iconst 0, 1) := by decide +kernel
theorem dL_isIn_222 : decode cL_isIn 222 = .ok (.istore 9, 2) := by decide +kernel
theorem dL_isIn_224 : decode cL_isIn 224 = .ok (.iinc 10 1, 3) := by decide +kernel
theorem dL_isIn_227 : decode cL_isIn 227 = .ok (.goto (-172), 3) := by decide +kernel
theorem dL_isIn_230 : decode cL_isIn 230 = .ok (.iload 9, 2) := by decide +kernel
theorem dL_isIn_232 : decode cL_isIn 232 = .ok (.ifCond .eq 27, 3) := by decide +kernel
theorem dL_isIn_235 : decode cL_isIn 235 = .ok (.aload_n 0, 1) := by decide +kernel
theorem dL_isIn_236 : decode cL_isIn 236 = .ok (.iconst 1, 1) := by decide +kernel
theorem dL_isIn_237 : decode cL_isIn 237 = .ok (.invokevirtual 44, 3) := by decide +kernel
theorem dL_isIn_240 : decode cL_isIn 240 = .ok (.iload 6, 2) := by decide +kernel
theorem dL_isIn_242 : decode cL_isIn 242 = .ok (.if_icmp .ne 17, 3) := by decide +kernel
theorem dL_isIn_245 : decode cL_isIn 245 = .ok (.aload_n 0, 1) := by decide +kernel
theorem dL_isIn_246 : decode cL_isIn 246 = .ok (.iconst 5, 1) := by decide +kernel
theorem dL_isIn_247 : decode cL_isIn 247 = .ok (.invokevirtual 8, 3) := by decide +kernel
theorem dL_isIn_250 : decode cL_isIn 250 = .ok (.iload 5, 2) := by decide +kernel
theorem dL_isIn_252 : decode cL_isIn 252 = .ok (.if_icmp .ne 7, 3) := by decide +kernel
theorem dL_isIn_255 : decode cL_isIn 255 = .ok (.iconst 1, 1) := by decide +kernel
theorem dL_isIn_256 : decode cL_isIn 256 = .ok (.goto 4, 3) := by decide +kernel
theorem dL_isIn_259 : decode cL_isIn 259 = .ok (.iconst 0, 1) := by decide +kernel
theorem dL_isIn_260 : decode cL_isIn 260 = .ok (.ireturn, 1) := by decide +kernel
theorem dL_isEdge_0 : decode cL_isEdge 0 = .ok (.aload_n 0, 1) := by decide +kernel
theorem dL_isEdge_1 : decode cL_isEdge 1 = .ok (.iload_n 1, 1) := by decide +kernel
theorem dL_isEdge_2 : decode cL_isEdge 2 = .ok (.iload_n 2, 1) := by decide +kernel
theorem dL_isEdge_3 : decode cL_isEdge 3 = .ok (.invokevirtual 47, 3) := by decide +kernel
theorem dL_isEdge_6 : decode cL_isEdge 6 = .ok (.istore_n 3, 1) := by decide +kernel
theorem dL_isEdge_7 : decode cL_isEdge 7 = .ok (.aload_n 0, 1) := by decide +kernel
theorem dL_isEdge_8 : decode cL_isEdge 8 = .ok (.iconst 0, 1) := by decide +kernel
theorem dL_isEdge_9 : decode cL_isEdge 9 = .ok (.iconst 0, 1) := by decide +kernel
theorem dL_isEdge_10 : decode cL_isEdge 10 = .ok (.invokevirtual 14, 3) := by decide +kernel
theorem dL_isEdge_13 : decode cL_isEdge 13 = .ok (.bipush 16, 2) := by decide +kernel
theorem dL_isEdge_15 : decode cL_isEdge 15 = .ok (.idiv, 1) := by decide +kernel
theorem dL_isEdge_16 : decode cL_isEdge 16 = .ok (.istore 4, 2) := by decide +kernel
theorem dL_isEdge_18 : decode cL_isEdge 18 = .ok (.aload_n 0, 1) := by decide +kernel
theorem dL_isEdge_19 : decode cL_isEdge 19 = .ok (.iconst 1, 1) := by decide +kernel
theorem dL_isEdge_20 : decode cL_isEdge 20 = .ok (.iconst 0, 1) := by decide +kernel
theorem dL_isEdge_21 : decode cL_isEdge 21 = .ok (.invokevirtual 14, 3) := by decide +kernel
theorem dL_isEdge_24 : decode cL_isEdge 24 = .ok (.bipush 16, 2) := by decide +kernel
theorem dL_isEdge_26 : decode cL_isEdge 26 = .ok (.idiv, 1) := by decide +kernel
theorem dL_isEdge_27 : decode cL_isEdge 27 = .ok (.istore 5, 2) := by decide +kernel
theorem dL_isEdge_29 : decode cL_isEdge 29 = .ok (.iconst 1, 1) := by decide +kernel
theorem dL_isEdge_30 : decode cL_isEdge 30 = .ok (.istore 6, 2) := by decide +kernel
theorem dL_isEdge_32 : decode cL_isEdge 32 = .ok (.iload 6, 2) := by decide +kernel
theorem dL_isEdge_34 : decode cL_isEdge 34 = .ok (.sipush 255, 3) := by decide +kernel
theorem dL_isEdge_37 : decode cL_isEdge 37 = .ok (.if_icmp .gt 106, 3) := by decide +kernel
theorem dL_isEdge_40 : decode cL_isEdge 40 = .ok (.iload_n 2, 1) := by decide +kernel
theorem dL_isEdge_41 : decode cL_isEdge 41 = .ok (.iconst 1, 1) := by decide +kernel
theorem dL_isEdge_42 : decode cL_isEdge 42 = .ok (.if_icmp .ne 8, 3) := by decide +kernel
theorem dL_isEdge_45 : decode cL_isEdge 45 = .ok (.iload 6, 2) := by decide +kernel
theorem dL_isEdge_47 : decode cL_isEdge 47 = .ok (.goto 6, 3) := by decide +kernel
theorem dL_isEdge_50 : decode cL_isEdge 50 = .ok (.iload 6, 2) := by decide +kernel
theorem dL_isEdge_52 : decode cL_isEdge 52 = .ok (.ineg, 1) := by decide +kernel
theorem dL_isEdge_53 : decode cL_isEdge 53 = .ok (.istore 7, 2) := by decide +kernel
theorem dL_isEdge_55 : decode cL_isEdge 55 = .ok (.aload_n 0, 1) := by decide +kernel
theorem dL_isEdge_56 : decode cL_isEdge 56 = .ok (.iload_n 1, 1) := by decide +kernel
theorem dL_isEdge_57 : decode cL_isEdge 57 = .ok (.ifCond .ne 11, 3) := by decide +kernel
theorem dL_isEdge_60 : decode cL_isEdge 60 = .ok (.iload 4, 2) := by decide +kernel
theorem dL_isEdge_62 : decode cL_isEdge 62 = .ok (.iload 7, 2) := by decide +kernel
theorem dL_isEdge_64 : decode cL_isEdge 64 = .ok (.iadd, 1) := by decide +kernel
theorem dL_isEdge_65 : decode cL_isEdge 65 = .ok (.goto 5, 3) := by decide +kernel
theorem dL_isEdge_68 : decode cL_isEdge 68 = .ok (.iload 4, 2) := by decide +kernel
theorem dL_isEdge_70 : decode cL_isEdge 70 = .ok (.iload_n 1, 1) := by decide +kernel
theorem dL_isEdge_71 : decode cL_isEdge 71 = .ok (.iconst 1, 1) := by decide +kernel
theorem dL_isEdge_72 : decode cL_isEdge 72 = .ok (.if_icmp .ne 11, 3) := by decide +kernel
theorem dL_isEdge_75 : decode cL_isEdge 75 = .ok (.iload 5, 2) := by decide +kernel
theorem dL_isEdge_77 : decode cL_isEdge 77 = .ok (.iload 7, 2) := by decide +kernel
theorem dL_isEdge_79 : decode cL_isEdge 79 = .ok (.iadd, 1) := by decide +kernel
theorem dL_isEdge_80 : decode cL_isEdge 80 = .ok (.goto 5, 3) := by decide +kernel
theorem dL_isEdge_83 : decode cL_isEdge 83 = .ok (.iload 5, 2) := by decide +kernel
theorem dL_isEdge_85 : decode cL_isEdge 85 = .ok (.invokevirtual 29, 3) := by decide +kernel
theorem dL_isEdge_88 : decode cL_isEdge 88 = .ok (.istore 8, 2) := by decide +kernel
theorem dL_isEdge_90 : decode cL_isEdge 90 = .ok (.iload 8, 2) := by decide +kernel
theorem dL_isEdge_92 : decode cL_isEdge 92 = .ok (.ifCond .lt 14, 3) := by decide +kernel
theorem dL_isEdge_95 : decode cL_isEdge 95 = .ok (.iload 8, 2) := by decide +kernel
theorem dL_isEdge_97 : decode cL_isEdge 97 = .ok (.ldc 50, 2) := by decide +kernel
theorem dL_isEdge_99 : decode cL_isEdge 99 = .ok (.if_icmp .eq 7, 3) := by decide +kernel
theorem dL_isEdge_102 : decode cL_isEdge 102 = .ok (.iconst 1, 1) := by decide +kernel
theorem dL_isEdge_103 : decode cL_isEdge 103 = .ok (.goto 4, 3) := by decide +kernel
theorem dL_isEdge_106 : decode cL_isEdge 106 = .ok (.iconst 0, 1) := by decide +kernel
theorem dL_isEdge_107 : decode cL_isEdge 107 = .ok (.istore 9, 2) := by decide +kernel
theorem dL_isEdge_109 : decode cL_isEdge 109 = .ok (.iload 9, 2) := by decide +kernel
theorem dL_isEdge_111 : decode cL_isEdge 111 = .ok (.iload 6, 2) := by decide +kernel
theorem dL_isEdge_113 : decode cL_isEdge 113 = .ok (.iload_n 3, 1) := by decide +kernel
theorem dL_isEdge_114 : decode cL_isEdge 114 = .ok (.if_icmp .ne 7, 3) := by decide +kernel
theorem dL_isEdge_117 : decode cL_isEdge 117 = .ok (.iconst 1, 1) := by decide +kernel
theorem dL_isEdge_118 : decode cL_isEdge 118 = .ok (.goto 4, 3) := by decide +kernel
theorem dL_isEdge_121 : decode cL_isEdge 121 = .ok (.iconst 0, 1) := by decide +kernel
theorem dL_isEdge_122 : decode cL_isEdge 122 = .ok (.if_icmp .eq 15, 3) := by decide +kernel
theorem dL_isEdge_125 : decode cL_isEdge 125 = .ok (.iload_n 3, 1) := by decide +kernel
theorem dL_isEdge_126 : decode cL_isEdge 126 = .ok (.ifCond .lt 9, 3) := by decide +kernel
theorem dL_isEdge_129 : decode cL_isEdge 129 = .ok (.iload 6, 2) := by decide +kernel
theorem dL_isEdge_131 : decode cL_isEdge 131 = .ok (.iload_n 3, 1) := by decide +kernel
theorem dL_isEdge_132 : decode cL_isEdge 132 = .ok (.if_icmp .gt 5, 3) := by decide +kernel
theorem dL_isEdge_135 : decode cL_isEdge 135 = .ok (.iconst 0, 1) := by decide +kernel
theorem dL_isEdge_136 : decode cL_isEdge 136 = .ok (.ireturn, 1) := by decide +kernel
theorem dL_isEdge_137 : decode cL_isEdge 137 = .ok (.iinc 6 1, 3) := by decide +kernel
theorem dL_isEdge_140 : decode cL_isEdge 140 = .ok (.goto (-108), 3) := by decide +kernel
theorem dL_isEdge_143 : decode cL_isEdge 143 = .ok (.iload_n 3, 1) := by decide +kernel
theorem dL_isEdge_144 : decode cL_isEdge 144 = .ok (.bipush (-6), 2) := by decide +kernel
theorem dL_isEdge_146 : decode cL_isEdge 146 = .ok (.if_icmp .eq 14, 3) := by decide +kernel
theorem dL_isEdge_149 : decode cL_isEdge 149 = .ok (.iload_n 3, 1) := by decide +kernel
theorem dL_isEdge_150 : decode cL_isEdge 150 = .ok (.ifCond .le 14, 3) := by decide +kernel
theorem dL_isEdge_153 : decode cL_isEdge 153 = .ok (.iload_n 3, 1) := by decide +kernel
theorem dL_isEdge_154 : decode cL_isEdge 154 = .ok (.sipush 256, 3) := by decide +kernel
theorem dL_isEdge_157 : decode cL_isEdge 157 = .ok (.if_icmp .ge 7, 3) := by decide +kernel
theorem dL_isEdge_160 : decode cL_isEdge 160 = .ok (.iconst 1, 1) := by decide +kernel
theorem dL_isEdge_161 : decode cL_isEdge 161 = .ok (.goto 4, 3) := by decide +kernel
theorem dL_isEdge_164 : decode cL_isEdge 164 = .ok (.iconst 0, 1) := by decide +kernel
theorem dL_isEdge_165 : decode cL_isEdge 165 = .ok (.ireturn, 1) := by decide +kernel
theorem dL_does_0 : decode cL_does 0 = .ok (.iload_n 1, 1) := by decide +kernel
theorem dL_does_1 : decode cL_does 1 = .ok (.iconst 4, 1) := by decide +kernel
theorem dL_does_2 : decode cL_does 2 = .ok (.ishr, 1) := by decide +kernel
theorem dL_does_3 : decode cL_does 3 = .ok (.bipush 9, 2) := by decide +kernel
theorem dL_does_5 : decode cL_does 5 = .ok (.invokestatic 51, 3) := by decide +kernel
theorem dL_does_8 : decode cL_does 8 = .ok (.istore_n 3, 1) := by decide +kernel
theorem dL_does_9 : decode cL_does 9 = .ok (.aload_n 0, 1) := by decide +kernel
theorem dL_does_10 : decode cL_does 10 = .ok (.iconst 0, 1) := by decide +kernel
theorem dL_does_11 : decode cL_does 11 = .ok (.iconst 0, 1) := by decide +kernel
theorem dL_does_12 : decode cL_does 12 = .ok (.invokevirtual 14, 3) := by decide +kernel
theorem dL_does_15 : decode cL_does 15 = .ok (.bipush 16, 2) := by decide +kernel
theorem dL_does_17 : decode cL_does 17 = .ok (.idiv, 1) := by decide +kernel
theorem dL_does_18 : decode cL_does 18 = .ok (.iload_n 2, 1) := by decide +kernel
theorem dL_does_19 : decode cL_does 19 = .ok (.bipush 41, 2) := by decide +kernel
theorem dL_does_21 : decode cL_does 21 = .ok (.invokestatic 51, 3) := by decide +kernel
theorem dL_does_24 : decode cL_does 24 = .ok (.iadd, 1) := by decide +kernel
theorem dL_does_25 : decode cL_does 25 = .ok (.bipush 20, 2) := by decide +kernel
theorem dL_does_27 : decode cL_does 27 = .ok (.isub, 1) := by decide +kernel
theorem dL_does_28 : decode cL_does 28 = .ok (.istore 4, 2) := by decide +kernel
theorem dL_does_30 : decode cL_does 30 = .ok (.aload_n 0, 1) := by decide +kernel
theorem dL_does_31 : decode cL_does 31 = .ok (.iconst 1, 1) := by decide +kernel
theorem dL_does_32 : decode cL_does 32 = .ok (.iconst 0, 1) := by decide +kernel
theorem dL_does_33 : decode cL_does 33 = .ok (.invokevirtual 14, 3) := by decide +kernel
theorem dL_does_36 : decode cL_does 36 = .ok (.bipush 16, 2) := by decide +kernel
theorem dL_does_38 : decode cL_does 38 = .ok (.idiv, 1) := by decide +kernel
theorem dL_does_39 : decode cL_does 39 = .ok (.iload_n 2, 1) := by decide +kernel
theorem dL_does_40 : decode cL_does 40 = .ok (.bipush 6, 2) := by decide +kernel
theorem dL_does_42 : decode cL_does 42 = .ok (.ishr, 1) := by decide +kernel
theorem dL_does_43 : decode cL_does 43 = .ok (.bipush 41, 2) := by decide +kernel
theorem dL_does_45 : decode cL_does 45 = .ok (.invokestatic 51, 3) := by decide +kernel
theorem dL_does_48 : decode cL_does 48 = .ok (.iadd, 1) := by decide +kernel
theorem dL_does_49 : decode cL_does 49 = .ok (.bipush 20, 2) := by decide +kernel
theorem dL_does_51 : decode cL_does 51 = .ok (.isub, 1) := by decide +kernel
theorem dL_does_52 : decode cL_does 52 = .ok (.istore 5, 2) := by decide +kernel
theorem dL_does_54 : decode cL_does 54 = .ok (.aload_n 0, 1) := by decide +kernel
theorem dL_does_55 : decode cL_does 55 = .ok (.bipush 6, 2) := by decide +kernel
theorem dL_does_57 : decode cL_does 57 = .ok (.invokevirtual 8, 3) := by decide +kernel
theorem dL_does_60 : decode cL_does 60 = .ok (.iload_n 3, 1) := by decide +kernel
theorem dL_does_61 : decode cL_does 61 = .ok (.ishr, 1) := by decide +kernel
theorem dL_does_62 : decode cL_does 62 = .ok (.iconst 1, 1) := by decide +kernel
theorem dL_does_63 : decode cL_does 63 = .ok (.iand, 1) := by decide +kernel
theorem dL_does_64 : decode cL_does 64 = .ok (.iconst 1, 1) := by decide +kernel
theorem dL_does_65 : decode cL_does 65 = .ok (.if_icmp .ne 7, 3) := by decide +kernel
theorem dL_does_68 : decode cL_does 68 = .ok (.iconst 1, 1) := by decide +kernel
theorem dL_does_69 : decode cL_does 69 = .ok (.goto 4, 3) := by decide +kernel
theorem dL_does_72 : decode cL_does 72 = .ok (.iconst 0, 1) := by decide +kernel
theorem dL_does_73 : decode cL_does 73 = .ok (.istore 6, 2) := by decide +kernel
theorem dL_does_75 : decode cL_does 75 = .ok (.iload_n 1, 1) := by decide +kernel
theorem dL_does_76 : decode cL_does 76 = .ok (.bipush 18, 2) := by decide +kernel
theorem dL_does_78 : decode cL_does 78 = .ok (.invokestatic 51, 3) := by decide +kernel
theorem dL_does_81 : decode cL_does 81 = .ok (.tableswitch 714 0 8 #[51, 278, 383, 456, 554, 554, 554, 639, 639], 51) := by decide +kernel
theorem dL_does_132 : decode cL_does 132 = .ok (.iload_n 1, 1) := by decide +kernel
theorem dL_does_133 : decode cL_does 133 = .ok (.iconst 4, 1) := by decide +kernel
theorem dL_does_134 : decode cL_does 134 = .ok (.ishr, 1) := by decide +kernel
theorem dL_does_135 : decode cL_does 135 = .ok (.bipush 7, 2) := by decide +kernel
theorem dL_does_137 : decode cL_does 137 = .ok (.invokestatic 51, 3) := by decide +kernel
theorem dL_does_140 : decode cL_does 140 = .ok (.istore 7, 2) := by decide +kernel
theorem dL_does_142 : decode cL_does 142 = .ok (.iload 7, 2) := by decide +kernel
theorem dL_does_144 : decode cL_does 144 = .ok (.ifCond .ne 14, 3) := by decide +kernel
theorem dL_does_147 : decode cL_does 147 = .ok (.iconst 1, 1) := by decide +kernel
theorem dL_does_148 : decode cL_does 148 = .ok (.iload_n 2, 1) := by decide +kernel
theorem dL_does_149 : decode cL_does 149 = .ok (.bipush 64, 2) := by decide +kernel
theorem dL_does_151 : decode cL_does 151 = .ok (.invokestatic 51, 3) := by decide +kernel
theorem dL_does_154 : decode cL_does 154 = .ok (.iadd, 1) := by decide +kernel
theorem dL_does_155 : decode cL_does 155 = .ok (.goto 94, 3) := by decide +kernel
theorem dL_does_158 : decode cL_does 158 = .ok (.iload 7, 2) := by decide +kernel
theorem dL_does_160 : decode cL_does 160 = .ok (.iconst 1, 1) := by decide +kernel
theorem dL_does_161 : decode cL_does 161 = .ok (.if_icmp .ne 14, 3) := by decide +kernel
theorem dL_does_164 : decode cL_does 164 = .ok (.iconst 1, 1) := by decide +kernel
theorem dL_does_165 : decode cL_does 165 = .ok (.iload_n 2, 1) := by decide +kernel
theorem dL_does_166 : decode cL_does 166 = .ok (.bipush 30, 2) := by decide +kernel
theorem dL_does_168 : decode cL_does 168 = .ok (.invokestatic 51, 3) := by decide +kernel
theorem dL_does_171 : decode cL_does 171 = .ok (.iadd, 1) := by decide +kernel
theorem dL_does_172 : decode cL_does 172 = .ok (.goto 77, 3) := by decide +kernel
theorem dL_does_175 : decode cL_does 175 = .ok (.iload 7, 2) := by decide +kernel
theorem dL_does_177 : decode cL_does 177 = .ok (.iconst 2, 1) := by decide +kernel
theorem dL_does_178 : decode cL_does 178 = .ok (.if_icmp .ne 12, 3) := by decide +kernel
theorem dL_does_181 : decode cL_does 181 = .ok (.iload_n 2, 1) := by decide +kernel
theorem dL_does_182 : decode cL_does 182 = .ok (.bipush 21, 2) := by decide +kernel
theorem dL_does_184 : decode cL_does 184 = .ok (.invokestatic 51, 3) := by decide +kernel
theorem dL_does_187 : decode cL_does 187 = .ok (.goto 62, 3) := by decide +kernel
theorem dL_does_190 : decode cL_does 190 = .ok (.iload 7, 2) := by decide +kernel
theorem dL_does_192 : decode cL_does 192 = .ok (.iconst 3, 1) := by decide +kernel
theorem dL_does_193 : decode cL_does 193 = .ok (.if_icmp .ne 15, 3) := by decide +kernel
theorem dL_does_196 : decode cL_does 196 = .ok (.bipush 60, 2) := by decide +kernel
theorem dL_does_198 : decode cL_does 198 = .ok (.iload_n 2, 1) := by decide +kernel
theorem dL_does_199 : decode cL_does 199 = .ok (.bipush 68, 2) := by decide +kernel
theorem dL_does_201 : decode cL_does 201 = .ok (.invokestatic 51, 3) := by decide +kernel
theorem dL_does_204 : decode cL_does 204 = .ok (.iadd, 1) := by decide +kernel
theorem dL_does_205 : decode cL_does 205 = .ok (.goto 44, 3) := by decide +kernel
theorem dL_does_208 : decode cL_does 208 = .ok (.iload 7, 2) := by decide +kernel
theorem dL_does_210 : decode cL_does 210 = .ok (.iconst 4, 1) := by decide +kernel
theorem dL_does_211 : decode cL_does 211 = .ok (.if_icmp .ne 15, 3) := by decide +kernel
theorem dL_does_214 : decode cL_does 214 = .ok (.bipush 100, 2) := by decide +kernel
theorem dL_does_216 : decode cL_does 216 = .ok (.iload_n 2, 1) := by decide +kernel
theorem dL_does_217 : decode cL_does 217 = .ok (.bipush 101, 2) := by decide +kernel
theorem dL_does_219 : decode cL_does 219 = .ok (.invokestatic 51, 3) := by decide +kernel
theorem dL_does_222 : decode cL_does 222 = .ok (.iadd, 1) := by decide +kernel
theorem dL_does_223 : decode cL_does 223 = .ok (.goto 26, 3) := by decide +kernel
theorem dL_does_226 : decode cL_does 226 = .ok (.iload 7, 2) := by decide +kernel
theorem dL_does_228 : decode cL_does 228 = .ok (.iconst 5, 1) := by decide +kernel
theorem dL_does_229 : decode cL_does 229 = .ok (.if_icmp .ne 14, 3) := by decide +kernel
theorem dL_does_232 : decode cL_does 232 = .ok (.iconst 2, 1) := by decide +kernel
theorem dL_does_233 : decode cL_does 233 = .ok (.iload_n 2, 1) := by decide +kernel
theorem dL_does_234 : decode cL_does 234 = .ok (.bipush 9, 2) := by decide +kernel
theorem dL_does_236 : decode cL_does 236 = .ok (.invokestatic 51, 3) := by decide +kernel
theorem dL_does_239 : decode cL_does 239 = .ok (.iadd, 1) := by decide +kernel
theorem dL_does_240 : decode cL_does 240 = .ok (.goto 9, 3) := by decide +kernel
theorem dL_does_243 : decode cL_does 243 = .ok (.iload_n 2, 1) := by decide +kernel
theorem dL_does_244 : decode cL_does 244 = .ok (.bipush 21, 2) := by decide +kernel
theorem dL_does_246 : decode cL_does 246 = .ok (.invokestatic 51, 3) := by decide +kernel
theorem dL_does_249 : decode cL_does 249 = .ok (.istore 8, 2) := by decide +kernel
theorem dL_does_251 : decode cL_does 251 = .ok (.aload_n 0, 1) := by decide +kernel
theorem dL_does_252 : decode cL_does 252 = .ok (.bipush 10, 2) := by decide +kernel
theorem dL_does_254 : decode cL_does 254 = .ok (.iload 7, 2) := by decide +kernel
theorem dL_does_256 : decode cL_does 256 = .ok (.iadd, 1) := by decide +kernel
theorem dL_does_257 : decode cL_does 257 = .ok (.invokevirtual 8, 3) := by decide +kernel
theorem dL_does_260 : decode cL_does 260 = .ok (.istore 9, 2) := by decide +kernel
theorem dL_does_262 : decode cL_does 262 = .ok (.aload_n 0, 1) := by decide +kernel
theorem dL_does_263 : decode cL_does 263 = .ok (.iconst 1, 1) := by decide +kernel
theorem dL_does_264 : decode cL_does 264 = .ok (.invokevirtual 8, 3) := by decide +kernel
theorem dL_does_267 : decode cL_does 267 = .ok (.istore 10, 2) := by decide +kernel
theorem dL_does_269 : decode cL_does 269 = .ok (.aload_n 0, 1) := by decide +kernel
theorem dL_does_270 : decode cL_does 270 = .ok (.iload 7, 2) := by decide +kernel
theorem dL_does_272 : decode cL_does 272 = .ok (.iload 8, 2) := by decide +kernel
theorem dL_does_274 : decode cL_does 274 = .ok (.invokevirtual 54, 3) := by decide +kernel
theorem dL_does_277 : decode cL_does 277 = .ok (.iload 9, 2) := by decide +kernel
theorem dL_does_279 : decode cL_does 279 = .ok (.if_icmp .ne 78, 3) := by decide +kernel
theorem dL_does_282 : decode cL_does 282 = .ok (.aload_n 0, 1) := by decide +kernel
theorem dL_does_283 : decode cL_does 283 = .ok (.bipush 10, 2) := by decide +kernel
theorem dL_does_285 : decode cL_does 285 = .ok (.iload 7, 2) := by decide +kernel
theorem dL_does_287 : decode cL_does 287 = .ok (.iadd, 1) := by decide +kernel
theorem dL_does_288 : decode cL_does 288 = .ok (.invokevirtual 8, 3) := by decide +kernel
theorem dL_does_291 : decode cL_does 291 = .ok (.iload 8, 2) := by decide +kernel
theorem dL_does_293 : decode cL_does 293 = .ok (.if_icmp .ne 64, 3) := by decide +kernel
theorem dL_does_296 : decode cL_does 296 = .ok (.aload_n 0, 1) := by decide +kernel
theorem dL_does_297 : decode cL_does 297 = .ok (.iconst 1, 1) := by decide +kernel
theorem dL_does_298 : decode cL_does 298 = .ok (.invokevirtual 8, 3) := by decide +kernel
theorem dL_does_301 : decode cL_does 301 = .ok (.iload 7, 2) := by decide +kernel
theorem dL_does_303 : decode cL_does 303 = .ok (.iconst 1, 1) := by decide +kernel
theorem dL_does_304 : decode cL_does 304 = .ok (.if_icmp .eq 9, 3) := by decide +kernel
theorem dL_does_307 : decode cL_does 307 = .ok (.iload 7, 2) := by decide +kernel
theorem dL_does_309 : decode cL_does 309 = .ok (.iconst 2, 1) := by decide +kernel
theorem dL_does_310 : decode cL_does 310 = .ok (.if_icmp .ne 12, 3) := by decide +kernel
theorem dL_does_313 : decode cL_does 313 = .ok (.aload_n 0, 1) := by decide +kernel
theorem dL_does_314 : decode cL_does 314 = .ok (.bipush 11, 2) := by decide +kernel
theorem dL_does_316 : decode cL_does 316 = .ok (.invokevirtual 8, 3) := by decide +kernel
theorem dL_does_319 : decode cL_does 319 = .ok (.goto 5, 3) := by decide +kernel
theorem dL_does_322 : decode cL_does 322 = .ok (.iload 10, 2) := by decide +kernel
theorem dL_does_324 : decode cL_does 324 = .ok (.if_icmp .ne 33, 3) := by decide +kernel
theorem dL_does_327 : decode cL_does 327 = .ok (.aload_n 0, 1) := by decide +kernel
theorem dL_does_328 : decode cL_does 328 = .ok (.iload_n 2, 1) := by decide +kernel
theorem dL_does_329 : decode cL_does 329 = .ok (.iconst 3, 1) := by decide +kernel
theorem dL_does_330 : decode cL_does 330 = .ok (.ishr, 1) := by decide +kernel
theorem dL_does_331 : decode cL_does 331 = .ok (.sipush 256, 3) := by decide +kernel
theorem dL_does_334 : decode cL_does 334 = .ok (.invokestatic 51, 3) := by decide +kernel
theorem dL_does_337 : decode cL_does 337 = .ok (.iload_n 2, 1) := by decide +kernel
theorem dL_does_338 : decode cL_does 338 = .ok (.bipush 11, 2) := by decide +kernel
theorem dL_does_340 : decode cL_does 340 = .ok (.ishr, 1) := by decide +kernel
theorem dL_does_341 : decode cL_does 341 = .ok (.sipush 256, 3) := by decide +kernel
theorem dL_does_344 : decode cL_does 344 = .ok (.invokestatic 51, 3) := by decide +kernel
theorem dL_does_347 : decode cL_does 347 = .ok (.invokestatic 57, 3) := by decide +kernel
theorem dL_does_350 : decode cL_does 350 = .ok (.ifCond .eq 7, 3) := by decide +kernel
theorem dL_does_353 : decode cL_does 353 = .ok (.iconst 1, 1) := by decide +kernel
theorem dL_does_354 : decode cL_does 354 = .ok (.goto 4, 3) := by decide +kernel
theorem dL_does_357 : decode cL_does 357 = .ok (.iconst 0, 1) := by decide +kernel
theorem dL_does_358 : decode cL_does 358 = .ok (.ireturn, 1) := by decide +kernel
theorem dL_does_359 : decode cL_does 359 = .ok (.aload_n 0, 1) := by decide +kernel
theorem dL_does_360 : decode cL_does 360 = .ok (.iconst 3, 1) := by decide +kernel
theorem dL_does_361 : decode cL_does 361 = .ok (.invokevirtual 8, 3) := by decide +kernel
theorem dL_does_364 : decode cL_does 364 = .ok (.istore 11, 2) := by decide +kernel
theorem dL_does_366 : decode cL_does 366 = .ok (.aload_n 0, 1) := by decide +kernel
theorem dL_does_367 : decode cL_does 367 = .ok (.iload_n 3, 1) := by decide +kernel
theorem dL_does_368 : decode cL_does 368 = .ok (.invokevirtual 61, 3) := by decide +kernel
theorem dL_does_371 : decode cL_does 371 = .ok (.istore 12, 2) := by decide +kernel
theorem dL_does_373 : decode cL_does 373 = .ok (.iload_n 3, 1) := by decide +kernel
theorem dL_does_374 : decode cL_does 374 = .ok (.bipush 7, 2) := by decide +kernel
theorem dL_does_376 : decode cL_does 376 = .ok (.if_icmp .le 17, 3) := by decide +kernel
theorem dL_does_379 : decode cL_does 379 = .ok (.iload 12, 2) := by decide +kernel
theorem dL_does_381 : decode cL_does 381 = .ok (.iconst (-1), 1) := by decide +kernel
theorem dL_does_382 : decode cL_does 382 = .ok (.if_icmp .ne 7, 3) := by decide +kernel
theorem dL_does_385 : decode cL_does 385 = .ok (.iconst 1, 1) := by decide +kernel
theorem dL_does_386 : decode cL_does 386 = .ok (.goto 77, 3) := by decide +kernel
theorem dL_does_389 : decode cL_does 389 = .ok (.iconst 0, 1) := by decide +kernel
theorem dL_does_390 : decode cL_does 390 = .ok (.goto 73, 3) := by decide +kernel
theorem dL_does_393 : decode cL_does 393 = .ok (.iload 6, 2) := by decide +kernel
theorem dL_does_395 : decode cL_does 395 = .ok (.ifCond .eq 28, 3) := by decide +kernel
theorem dL_does_398 : decode cL_does 398 = .ok (.iload 12, 2) := by decide +kernel
theorem dL_does_400 : decode cL_does 400 = .ok (.bipush (-5), 2) := by decide +kernel
theorem dL_does_402 : decode cL_does 402 = .ok (.if_icmp .ne 17, 3) := by decide +kernel
theorem dL_does_405 : decode cL_does 405 = .ok (.aload_n 0, 1) := by decide +kernel
theorem dL_does_406 : decode cL_does 406 = .ok (.iconst 3, 1) := by decide +kernel
theorem dL_does_407 : decode cL_does 407 = .ok (.invokevirtual 8, 3) := by decide +kernel
theorem dL_does_410 : decode cL_does 410 = .ok (.iload 11, 2) := by decide +kernel
theorem dL_does_412 : decode cL_does 412 = .ok (.if_icmp .ne 7, 3) := by decide +kernel
theorem dL_does_415 : decode cL_does 415 = .ok (.iconst 1, 1) := by decide +kernel
theorem dL_does_416 : decode cL_does 416 = .ok (.goto 47, 3) := by decide +kernel
theorem dL_does_419 : decode cL_does 419 = .ok (.iconst 0, 1) := by decide +kernel
theorem dL_does_420 : decode cL_does 420 = .ok (.goto 43, 3) := by decide +kernel
theorem dL_does_423 : decode cL_does 423 = .ok (.iload 12, 2) := by decide +kernel
theorem dL_does_425 : decode cL_does 425 = .ok (.aload_n 0, 1) := by decide +kernel
theorem dL_does_426 : decode cL_does 426 = .ok (.bipush 6, 2) := by decide +kernel
theorem dL_does_428 : decode cL_does 428 = .ok (.invokevirtual 8, 3) := by decide +kernel
theorem dL_does_431 : decode cL_does 431 = .ok (.if_icmp .ne 31, 3) := by decide +kernel
theorem dL_does_434 : decode cL_does 434 = .ok (.iload 12, 2) := by decide +kernel
theorem dL_does_436 : decode cL_does 436 = .ok (.iload_n 3, 1) := by decide +kernel
theorem dL_does_437 : decode cL_does 437 = .ok (.ishr, 1) := by decide +kernel
theorem dL_does_438 : decode cL_does 438 = .ok (.iconst 1, 1) := by decide +kernel
theorem dL_does_439 : decode cL_does 439 = .ok (.iand, 1) := by decide +kernel
theorem dL_does_440 : decode cL_does 440 = .ok (.iconst 1, 1) := by decide +kernel
theorem dL_does_441 : decode cL_does 441 = .ok (.if_icmp .ne 21, 3) := by decide +kernel
theorem dL_does_444 : decode cL_does 444 = .ok (.aload_n 0, 1) := by decide +kernel
theorem dL_does_445 : decode cL_does 445 = .ok (.iconst 3, 1) := by decide +kernel
theorem dL_does_446 : decode cL_does 446 = .ok (.invokevirtual 8, 3) := by decide +kernel
theorem dL_does_449 : decode cL_does 449 = .ok (.aload_n 0, 1) := by decide +kernel
theorem dL_does_450 : decode cL_does 450 = .ok (.bipush 16, 2) := by decide +kernel
theorem dL_does_452 : decode cL_does 452 = .ok (.invokevirtual 8, 3) := by decide +kernel
theorem dL_does_455 : decode cL_does 455 = .ok (.if_icmp .ne 7, 3) := by decide +kernel
theorem dL_does_458 : decode cL_does 458 = .ok (.iconst 1, 1) := by decide +kernel
theorem dL_does_459 : decode cL_does 459 = .ok (.goto 4, 3) := by decide +kernel
theorem dL_does_462 : decode cL_does 462 = .ok (.iconst 0, 1) := by decide +kernel
theorem dL_does_463 : decode cL_does 463 = .ok (.ireturn, 1) := by decide +kernel
theorem dL_does_464 : decode cL_does 464 = .ok (.aload_n 0, 1) := by decide +kernel
theorem dL_does_465 : decode cL_does 465 = .ok (.iload_n 3, 1) := by decide +kernel
theorem dL_does_466 : decode cL_does 466 = .ok (.invokevirtual 64, 3) := by decide +kernel
theorem dL_does_469 : decode cL_does 469 = .ok (.istore 13, 2) := by decide +kernel
theorem dL_does_471 : decode cL_does 471 = .ok (.iload_n 3, 1) := by decide +kernel
theorem dL_does_472 : decode cL_does 472 = .ok (.bipush 7, 2) := by decide +kernel
theorem dL_does_474 : decode cL_does 474 = .ok (.if_icmp .le 17, 3) := by decide +kernel
theorem dL_does_477 : decode cL_does 477 = .ok (.iload 13, 2) := by decide +kernel
theorem dL_does_479 : decode cL_does 479 = .ok (.iconst (-1), 1) := by decide +kernel
theorem dL_does_480 : decode cL_does 480 = .ok (.if_icmp .ne 7, 3) := by decide +kernel
theorem dL_does_483 : decode cL_does 483 = .ok (.iconst 1, 1) := by decide +kernel
theorem dL_does_484 : decode cL_does 484 = .ok (.goto 52, 3) := by decide +kernel
theorem dL_does_487 : decode cL_does 487 = .ok (.iconst 0, 1) := by decide +kernel
theorem dL_does_488 : decode cL_does 488 = .ok (.goto 48, 3) := by decide +kernel
theorem dL_does_491 : decode cL_does 491 = .ok (.iload 6, 2) := by decide +kernel
theorem dL_does_493 : decode cL_does 493 = .ok (.ifCond .eq 31, 3) := by decide +kernel
theorem dL_does_496 : decode cL_does 496 = .ok (.iload 13, 2) := by decide +kernel
theorem dL_does_498 : decode cL_does 498 = .ok (.aload_n 0, 1) := by decide +kernel
theorem dL_does_499 : decode cL_does 499 = .ok (.bipush 6, 2) := by decide +kernel
theorem dL_does_501 : decode cL_does 501 = .ok (.invokevirtual 8, 3) := by decide +kernel
theorem dL_does_504 : decode cL_does 504 = .ok (.if_icmp .ne 16, 3) := by decide +kernel
theorem dL_does_507 : decode cL_does 507 = .ok (.iload 13, 2) := by decide +kernel
theorem dL_does_509 : decode cL_does 509 = .ok (.iload_n 3, 1) := by decide +kernel
theorem dL_does_510 : decode cL_does 510 = .ok (.ishr, 1) := by decide +kernel
theorem dL_does_511 : decode cL_does 511 = .ok (.iconst 1, 1) := by decide +kernel
theorem dL_does_512 : decode cL_does 512 = .ok (.iand, 1) := by decide +kernel
theorem dL_does_513 : decode cL_does 513 = .ok (.ifCond .ne 7, 3) := by decide +kernel
theorem dL_does_516 : decode cL_does 516 = .ok (.iconst 1, 1) := by decide +kernel
theorem dL_does_517 : decode cL_does 517 = .ok (.goto 19, 3) := by decide +kernel
theorem dL_does_520 : decode cL_does 520 = .ok (.iconst 0, 1) := by decide +kernel
theorem dL_does_521 : decode cL_does 521 = .ok (.goto 15, 3) := by decide +kernel
theorem dL_does_524 : decode cL_does 524 = .ok (.iload 13, 2) := by decide +kernel
theorem dL_does_526 : decode cL_does 526 = .ok (.bipush (-5), 2) := by decide +kernel
theorem dL_does_528 : decode cL_does 528 = .ok (.if_icmp .ne 7, 3) := by decide +kernel
theorem dL_does_531 : decode cL_does 531 = .ok (.iconst 1, 1) := by decide +kernel
theorem dL_does_532 : decode cL_does 532 = .ok (.goto 4, 3) := by decide +kernel
theorem dL_does_535 : decode cL_does 535 = .ok (.iconst 0, 1) := by decide +kernel
theorem dL_does_536 : decode cL_does 536 = .ok (.ireturn, 1) := by decide +kernel
theorem dL_does_537 : decode cL_does 537 = .ok (.aload_n 0, 1) := by decide +kernel
theorem dL_does_538 : decode cL_does 538 = .ok (.iconst 0, 1) := by decide +kernel
theorem dL_does_539 : decode cL_does 539 = .ok (.iconst 0, 1) := by decide +kernel
theorem dL_does_540 : decode cL_does 540 = .ok (.invokevirtual 14, 3) := by decide +kernel
theorem dL_does_543 : decode cL_does 543 = .ok (.sipush 2048, 3) := by decide +kernel
theorem dL_does_546 : decode cL_does 546 = .ok (.isub, 1) := by decide +kernel
theorem dL_does_547 : decode cL_does 547 = .ok (.invokestatic 18, 3) := by decide +kernel
theorem dL_does_550 : decode cL_does 550 = .ok (.aload_n 0, 1) := by decide +kernel
theorem dL_does_551 : decode cL_does 551 = .ok (.iconst 1, 1) := by decide +kernel
theorem dL_does_552 : decode cL_does 552 = .ok (.iconst 0, 1) := by decide +kernel
theorem dL_does_553 : decode cL_does 553 = .ok (.invokevirtual 14, 3) := by decide +kernel
theorem dL_does_556 : decode cL_does 556 = .ok (.sipush 2048, 3) := by decide +kernel
theorem dL_does_559 : decode cL_does 559 = .ok (.isub, 1) := by decide +kernel
theorem dL_does_560 : decode cL_does 560 = .ok (.invokestatic 18, 3) := by decide +kernel
theorem dL_does_563 : decode cL_does 563 = .ok (.iadd, 1) := by decide +kernel
theorem dL_does_564 : decode cL_does 564 = .ok (.istore 14, 2) := by decide +kernel
theorem dL_does_566 : decode cL_does 566 = .ok (.iload_n 1, 1) := by decide +kernel
theorem dL_does_567 : decode cL_does 567 = .ok (.iconst 4, 1) := by decide +kernel
theorem dL_does_568 : decode cL_does 568 = .ok (.ishr, 1) := by decide +kernel
theorem dL_does_569 : decode cL_does 569 = .ok (.iconst 3, 1) := by decide +kernel
theorem dL_does_570 : decode cL_does 570 = .ok (.iand, 1) := by decide +kernel
theorem dL_does_571 : decode cL_does 571 = .ok (.ifCond .ne 58, 3) := by decide +kernel
theorem dL_does_574 : decode cL_does 574 = .ok (.aload_n 0, 1) := by decide +kernel
theorem dL_does_575 : decode cL_does 575 = .ok (.invokevirtual 67, 3) := by decide +kernel
theorem dL_does_578 : decode cL_does 578 = .ok (.iload 14, 2) := by decide +kernel
theorem dL_does_580 : decode cL_does 580 = .ok (.if_icmp .ne 53, 3) := by decide +kernel
theorem dL_does_583 : decode cL_does 583 = .ok (.aload_n 0, 1) := by decide +kernel
theorem dL_does_584 : decode cL_does 584 = .ok (.iconst 0, 1) := by decide +kernel
theorem dL_does_585 : decode cL_does 585 = .ok (.iconst 0, 1) := by decide +kernel
theorem dL_does_586 : decode cL_does 586 = .ok (.invokevirtual 14, 3) := by decide +kernel
theorem dL_does_589 : decode cL_does 589 = .ok (.sipush 2048, 3) := by decide +kernel
theorem dL_does_592 : decode cL_does 592 = .ok (.if_icmp .ne 41, 3) := by decide +kernel
theorem dL_does_595 : decode cL_does 595 = .ok (.aload_n 0, 1) := by decide +kernel
theorem dL_does_596 : decode cL_does 596 = .ok (.iconst 1, 1) := by decide +kernel
theorem dL_does_597 : decode cL_does 597 = .ok (.iconst 0, 1) := by decide +kernel
theorem dL_does_598 : decode cL_does 598 = .ok (.invokevirtual 14, 3) := by decide +kernel
theorem dL_does_601 : decode cL_does 601 = .ok (.sipush 2048, 3) := by decide +kernel
theorem dL_does_604 : decode cL_does 604 = .ok (.if_icmp .ne 29, 3) := by decide +kernel
theorem dL_does_607 : decode cL_does 607 = .ok (.aload_n 0, 1) := by decide +kernel
theorem dL_does_608 : decode cL_does 608 = .ok (.iconst 1, 1) := by decide +kernel
theorem dL_does_609 : decode cL_does 609 = .ok (.invokevirtual 8, 3) := by decide +kernel
theorem dL_does_612 : decode cL_does 612 = .ok (.aload_n 0, 1) := by decide +kernel
theorem dL_does_613 : decode cL_does 613 = .ok (.bipush 11, 2) := by decide +kernel
theorem dL_does_615 : decode cL_does 615 = .ok (.invokevirtual 8, 3) := by decide +kernel
theorem dL_does_618 : decode cL_does 618 = .ok (.if_icmp .ne 15, 3) := by decide +kernel
theorem dL_does_621 : decode cL_does 621 = .ok (.aload_n 0, 1) := by decide +kernel
theorem dL_does_622 : decode cL_does 622 = .ok (.iconst 2, 1) := by decide +kernel
theorem dL_does_623 : decode cL_does 623 = .ok (.invokevirtual 8, 3) := by decide +kernel
theorem dL_does_626 : decode cL_does 626 = .ok (.ifCond .ne 7, 3) := by decide +kernel
theorem dL_does_629 : decode cL_does 629 = .ok (.iconst 1, 1) := by decide +kernel
theorem dL_does_630 : decode cL_does 630 = .ok (.goto 4, 3) := by decide +kernel
theorem dL_does_633 : decode cL_does 633 = .ok (.iconst 0, 1) := by decide +kernel
theorem dL_does_634 : decode cL_does 634 = .ok (.ireturn, 1) := by decide +kernel
theorem dL_does_635 : decode cL_does 635 = .ok (.aload_n 0, 1) := by decide +kernel
theorem dL_does_636 : decode cL_does 636 = .ok (.iconst 0, 1) := by decide +kernel
theorem dL_does_637 : decode cL_does 637 = .ok (.invokevirtual 8, 3) := by decide +kernel
theorem dL_does_640 : decode cL_does 640 = .ok (.istore 15, 2) := by decide +kernel
theorem dL_does_642 : decode cL_does 642 = .ok (.iconst 1, 1) := by decide +kernel
theorem dL_does_643 : decode cL_does 643 = .ok (.iload_n 1, 1) := by decide +kernel
theorem dL_does_644 : decode cL_does 644 = .ok (.iconst 4, 1) := by decide +kernel
theorem dL_does_645 : decode cL_does 645 = .ok (.ishr, 1) := by decide +kernel
theorem dL_does_646 : decode cL_does 646 = .ok (.bipush 15, 2) := by decide +kernel
theorem dL_does_648 : decode cL_does 648 = .ok (.invokestatic 51, 3) := by decide +kernel
theorem dL_does_651 : decode cL_does 651 = .ok (.iadd, 1) := by decide +kernel
theorem dL_does_652 : decode cL_does 652 = .ok (.istore 16, 2) := by decide +kernel
theorem dL_does_654 : decode cL_does 654 = .ok (.aload_n 0, 1) := by decide +kernel
theorem dL_does_655 : decode cL_does 655 = .ok (.iload_n 2, 1) := by decide +kernel
theorem dL_does_656 : decode cL_does 656 = .ok (.sipush 256, 3) := by decide +kernel
theorem dL_does_659 : decode cL_does 659 = .ok (.invokestatic 51, 3) := by decide +kernel
theorem dL_does_662 : decode cL_does 662 = .ok (.iload_n 2, 1) := by decide +kernel
theorem dL_does_663 : decode cL_does 663 = .ok (.bipush 8, 2) := by decide +kernel
theorem dL_does_665 : decode cL_does 665 = .ok (.ishr, 1) := by decide +kernel
theorem dL_does_666 : decode cL_does 666 = .ok (.sipush 256, 3) := by decide +kernel
theorem dL_does_669 : decode cL_does 669 = .ok (.invokestatic 51, 3) := by decide +kernel
theorem dL_does_672 : decode cL_does 672 = .ok (.iload 16, 2) := by decide +kernel
theorem dL_does_674 : decode cL_does 674 = .ok (.invokevirtual 71, 3) := by decide +kernel
theorem dL_does_677 : decode cL_does 677 = .ok (.istore 17, 2) := by decide +kernel
theorem dL_does_679 : decode cL_does 679 = .ok (.iload 17, 2) := by decide +kernel
theorem dL_does_681 : decode cL_does 681 = .ok (.sipush 1000, 3) := by decide +kernel
theorem dL_does_684 : decode cL_does 684 = .ok (.aload_n 0, 1) := by decide +kernel
theorem dL_does_685 : decode cL_does 685 = .ok (.iconst 0, 1) := by decide +kernel
theorem dL_does_686 : decode cL_does 686 = .ok (.iconst 1, 1) := by decide +kernel
theorem dL_does_687 : decode cL_does 687 = .ok (.invokevirtual 14, 3) := by decide +kernel
theorem dL_does_690 : decode cL_does 690 = .ok (.imul, 1) := by decide +kernel
theorem dL_does_691 : decode cL_does 691 = .ok (.aload_n 0, 1) := by decide +kernel
theorem dL_does_692 : decode cL_does 692 = .ok (.iconst 1, 1) := by decide +kernel
theorem dL_does_693 : decode cL_does 693 = .ok (.iconst 1, 1) := by decide +kernel
theorem dL_does_694 : decode cL_does 694 = .ok (.invokevirtual 14, 3) := by decide +kernel
theorem dL_does_697 : decode cL_does 697 = .ok (.iadd, 1) := by decide +kernel
theorem dL_does_698 : decode cL_does 698 = .ok (.if_icmp .ne 20, 3) := by decide +kernel
theorem dL_does_701 : decode cL_does 701 = .ok (.aload_n 0, 1) := by decide +kernel
theorem dL_does_702 : decode cL_does 702 = .ok (.iconst 0, 1) := by decide +kernel
theorem dL_does_703 : decode cL_does 703 = .ok (.invokevirtual 8, 3) := by decide +kernel
theorem dL_does_706 : decode cL_does 706 = .ok (.iload 15, 2) := by decide +kernel
theorem dL_does_708 : decode cL_does 708 = .ok (.iload 16, 2) := by decide +kernel
theorem dL_does_710 : decode cL_does 710 = .ok (.iadd, 1) := by decide +kernel
theorem dL_does_711 : decode cL_does 711 = .ok (.if_icmp .ne 7, 3) := by decide +kernel
theorem dL_does_714 : decode cL_does 714 = .ok (.iconst 1, 1) := by decide +kernel
theorem dL_does_715 : decode cL_does 715 = .ok (.goto 4, 3) := by decide +kernel
theorem dL_does_718 : decode cL_does 718 = .ok (.iconst 0, 1) := by decide +kernel
theorem dL_does_719 : decode cL_does 719 = .ok (.ireturn, 1) := by decide +kernel
theorem dL_does_720 : decode cL_does 720 = .ok (.aload_n 0, 1) := by decide +kernel
theorem dL_does_721 : decode cL_does 721 = .ok (.iconst 0, 1) := by decide +kernel
theorem dL_does_722 : decode cL_does 722 = .ok (.iconst 2, 1) := by decide +kernel
theorem dL_does_723 : decode cL_does 723 = .ok (.invokevirtual 14, 3) := by decide +kernel
theorem dL_does_726 : decode cL_does 726 = .ok (.istore 18, 2) := by decide +kernel
theorem dL_does_728 : decode cL_does 728 = .ok (.aload_n 0, 1) := by decide +kernel
theorem dL_does_729 : decode cL_does 729 = .ok (.iconst 1, 1) := by decide +kernel
theorem dL_does_730 : decode cL_does 730 = .ok (.iconst 2, 1) := by decide +kernel
theorem dL_does_731 : decode cL_does 731 = .ok (.invokevirtual 14, 3) := by decide +kernel
theorem dL_does_734 : decode cL_does 734 = .ok (.istore 19, 2) := by decide +kernel
theorem dL_does_736 : decode cL_does 736 = .ok (.aload_n 0, 1) := by decide +kernel
theorem dL_does_737 : decode cL_does 737 = .ok (.iconst 0, 1) := by decide +kernel
theorem dL_does_738 : decode cL_does 738 = .ok (.invokevirtual 8, 3) := by decide +kernel
theorem dL_does_741 : decode cL_does 741 = .ok (.ifCond .eq 48, 3) := by decide +kernel
theorem dL_does_744 : decode cL_does 744 = .ok (.iload 18, 2) := by decide +kernel
theorem dL_does_746 : decode cL_does 746 = .ok (.iconst 1, 1) := by decide +kernel
theorem dL_does_747 : decode cL_does 747 = .ok (.iadd, 1) := by decide +kernel
theorem dL_does_748 : decode cL_does 748 = .ok (.sipush 255, 3) := by decide +kernel
theorem dL_does_751 : decode cL_does 751 = .ok (.if_icmp .gt 38, 3) := by decide +kernel
theorem dL_does_754 : decode cL_does 754 = .ok (.aload_n 0, 1) := by decide +kernel
theorem dL_does_755 : decode cL_does 755 = .ok (.iload 18, 2) := by decide +kernel
theorem dL_does_757 : decode cL_does 757 = .ok (.iload 19, 2) := by decide +kernel
theorem dL_does_759 : decode cL_does 759 = .ok (.invokestatic 57, 3) := by decide +kernel
theorem dL_does_762 : decode cL_does 762 = .ok (.ifCond .eq 31, 3) := by decide +kernel
theorem dL_does_765 : decode cL_does 765 = .ok (.aload_n 0, 1) := by decide +kernel
theorem dL_does_766 : decode cL_does 766 = .ok (.iload 18, 2) := by decide +kernel
theorem dL_does_768 : decode cL_does 768 = .ok (.iconst 1, 1) := by decide +kernel
theorem dL_does_769 : decode cL_does 769 = .ok (.iadd, 1) := by decide +kernel
theorem dL_does_770 : decode cL_does 770 = .ok (.iload 19, 2) := by decide +kernel
theorem dL_does_772 : decode cL_does 772 = .ok (.invokestatic 57, 3) := by decide +kernel
theorem dL_does_775 : decode cL_does 775 = .ok (.ifCond .eq 18, 3) := by decide +kernel
theorem dL_does_778 : decode cL_does 778 = .ok (.aload_n 0, 1) := by decide +kernel
theorem dL_does_779 : decode cL_does 779 = .ok (.iload 18, 2) := by decide +kernel
theorem dL_does_781 : decode cL_does 781 = .ok (.iload 19, 2) := by decide +kernel
theorem dL_does_783 : decode cL_does 783 = .ok (.invokestatic 57, 3) := by decide +kernel
theorem dL_does_786 : decode cL_does 786 = .ok (.ifCond .eq 7, 3) := by decide +kernel
theorem dL_does_789 : decode cL_does 789 = .ok (.iconst 1, 1) := by decide +kernel
theorem dL_does_790 : decode cL_does 790 = .ok (.goto 4, 3) := by decide +kernel
theorem dL_does_793 : decode cL_does 793 = .ok (.iconst 0, 1) := by decide +kernel
theorem dL_does_794 : decode cL_does 794 = .ok (.ireturn, 1) := by decide +kernel
theorem dL_does_795 : decode cL_does 795 = .ok (.aload_n 0, 1) := by decide +kernel
theorem dL_does_796 : decode cL_does 796 = .ok (.iload 4, 2) := by decide +kernel
theorem dL_does_798 : decode cL_does 798 = .ok (.ifCond .ge 7, 3) := by decide +kernel
theorem dL_does_801 : decode cL_does 801 = .ok (.iconst 0, 1) := by decide +kernel
theorem dL_does_802 : decode cL_does 802 = .ok (.goto 19, 3) := by decide +kernel
theorem dL_does_805 : decode cL_does 805 = .ok (.iload 4, 2) := by decide +kernel
theorem dL_does_807 : decode cL_does 807 = .ok (.sipush 255, 3) := by decide +kernel
theorem dL_does_810 : decode cL_does 810 = .ok (.if_icmp .le 9, 3) := by decide +kernel
theorem dL_does_813 : decode cL_does 813 = .ok (.sipush 255, 3) := by decide +kernel
theorem dL_does_816 : decode cL_does 816 = .ok (.goto 5, 3) := by decide +kernel
theorem dL_does_819 : decode cL_does 819 = .ok (.iload 4, 2) := by decide +kernel
theorem dL_does_821 : decode cL_does 821 = .ok (.iload 5, 2) := by decide +kernel
theorem dL_does_823 : decode cL_does 823 = .ok (.ifCond .ge 7, 3) := by decide +kernel
theorem dL_does_826 : decode cL_does 826 = .ok (.iconst 0, 1) := by decide +kernel
theorem dL_does_827 : decode cL_does 827 = .ok (.goto 19, 3) := by decide +kernel
theorem dL_does_830 : decode cL_does 830 = .ok (.iload 5, 2) := by decide +kernel
theorem dL_does_832 : decode cL_does 832 = .ok (.sipush 255, 3) := by decide +kernel
theorem dL_does_835 : decode cL_does 835 = .ok (.if_icmp .le 9, 3) := by decide +kernel
theorem dL_does_838 : decode cL_does 838 = .ok (.sipush 255, 3) := by decide +kernel
theorem dL_does_841 : decode cL_does 841 = .ok (.goto 5, 3) := by decide +kernel
theorem dL_does_844 : decode cL_does 844 = .ok (.iload 5, 2) := by decide +kernel
theorem dL_does_846 : decode cL_does 846 = .ok (.invokestatic 57, 3) := by decide +kernel
theorem dL_does_849 : decode cL_does 849 = .ok (.ireturn, 1) := by decide +kernel
theorem dL_law_0 : decode cL_law 0 = .ok (.new 9, 3) := by decide +kernel
theorem dL_law_3 : decode cL_law 3 = .ok (.dup, 1) := by decide +kernel
theorem dL_law_4 : decode cL_law 4 = .ok (.invokespecial 75, 3) := by decide +kernel
theorem dL_law_7 : decode cL_law 7 = .ok (.astore_n 1, 1) := by decide +kernel
theorem dL_law_8 : decode cL_law 8 = .ok (.aload_n 1, 1) := by decide +kernel
theorem dL_law_9 : decode cL_law 9 = .ok (.invokestatic 76, 3) := by decide +kernel
theorem dL_law_12 : decode cL_law 12 = .ok (.ifCond .eq 50, 3) := by decide +kernel
theorem dL_law_15 : decode cL_law 15 = .ok (.aload_n 1, 1) := by decide +kernel
theorem dL_law_16 : decode cL_law 16 = .ok (.sipush 128, 3) := by decide +kernel
theorem dL_law_19 : decode cL_law 19 = .ok (.sipush 128, 3) := by decide +kernel
theorem dL_law_22 : decode cL_law 22 = .ok (.invokevirtual 29, 3) := by decide +kernel
theorem dL_law_25 : decode cL_law 25 = .ok (.ldc 50, 2) := by decide +kernel
theorem dL_law_27 : decode cL_law 27 = .ok (.if_icmp .ne 35, 3) := by decide +kernel
theorem dL_law_30 : decode cL_law 30 = .ok (.aload_n 1, 1) := by decide +kernel
theorem dL_law_31 : decode cL_law 31 = .ok (.sipush 128, 3) := by decide +kernel
theorem dL_law_34 : decode cL_law 34 = .ok (.sipush 128, 3) := by decide +kernel
theorem dL_law_37 : decode cL_law 37 = .ok (.invokevirtual 35, 3) := by decide +kernel
theorem dL_law_40 : decode cL_law 40 = .ok (.ifCond .ne 22, 3) := by decide +kernel
theorem dL_law_43 : decode cL_law 43 = .ok (.aload_n 1, 1) := by decide +kernel
theorem dL_law_44 : decode cL_law 44 = .ok (.invokevirtual 80, 3) := by decide +kernel
theorem dL_law_47 : decode cL_law 47 = .ok (.bipush (-5), 2) := by decide +kernel
theorem dL_law_49 : decode cL_law 49 = .ok (.if_icmp .ne 13, 3) := by decide +kernel
theorem dL_law_52 : decode cL_law 52 = .ok (.aload_n 1, 1) := by decide +kernel
theorem dL_law_53 : decode cL_law 53 = .ok (.iconst 0, 1) := by decide +kernel
theorem dL_law_54 : decode cL_law 54 = .ok (.iconst 0, 1) := by decide +kernel
theorem dL_law_55 : decode cL_law 55 = .ok (.invokevirtual 23, 3) := by decide +kernel
theorem dL_law_58 : decode cL_law 58 = .ok (.iconst (-1), 1) := by decide +kernel
theorem dL_law_59 : decode cL_law 59 = .ok (.if_icmp .eq 5, 3) := by decide +kernel
theorem dL_law_62 : decode cL_law 62 = .ok (.iconst 0, 1) := by decide +kernel
theorem dL_law_63 : decode cL_law 63 = .ok (.ireturn, 1) := by decide +kernel
theorem dL_law_64 : decode cL_law 64 = .ok (.iconst 0, 1) := by decide +kernel
theorem dL_law_65 : decode cL_law 65 = .ok (.istore_n 2, 1) := by decide +kernel
theorem dL_law_66 : decode cL_law 66 = .ok (.iload_n 2, 1) := by decide +kernel
theorem dL_law_67 : decode cL_law 67 = .ok (.bipush 90, 2) := by decide +kernel
theorem dL_law_69 : decode cL_law 69 = .ok (.if_icmp .ge 182, 3) := by decide +kernel
theorem dL_law_72 : decode cL_law 72 = .ok (.aload_n 0, 1) := by decide +kernel
theorem dL_law_73 : decode cL_law 73 = .ok (.iconst 2, 1) := by decide +kernel
theorem dL_law_74 : decode cL_law 74 = .ok (.iload_n 2, 1) := by decide +kernel
theorem dL_law_75 : decode cL_law 75 = .ok (.imul, 1) := by decide +kernel
theorem dL_law_76 : decode cL_law 76 = .ok (.invokestatic 83, 3) := by decide +kernel
theorem dL_law_79 : decode cL_law 79 = .ok (.istore_n 3, 1) := by decide +kernel
theorem dL_law_80 : decode cL_law 80 = .ok (.aload_n 0, 1) := by decide +kernel
theorem dL_law_81 : decode cL_law 81 = .ok (.iconst 2, 1) := by decide +kernel
theorem dL_law_82 : decode cL_law 82 = .ok (.iload_n 2, 1) := by decide +kernel
theorem dL_law_83 : decode cL_law 83 = .ok (.imul, 1) := by decide +kernel
theorem dL_law_84 : decode cL_law 84 = .ok (.iconst 1, 1) := by decide +kernel
theorem dL_law_85 : decode cL_law 85 = .ok (.iadd, 1) := by decide +kernel
theorem dL_law_86 : decode cL_law 86 = .ok (.invokestatic 83, 3) := by decide +kernel
theorem dL_law_89 : decode cL_law 89 = .ok (.istore 4, 2) := by decide +kernel
theorem dL_law_91 : decode cL_law 91 = .ok (.aload_n 1, 1) := by decide +kernel
theorem dL_law_92 : decode cL_law 92 = .ok (.iload_n 3, 1) := by decide +kernel
theorem dL_law_93 : decode cL_law 93 = .ok (.iload 4, 2) := by decide +kernel
theorem dL_law_95 : decode cL_law 95 = .ok (.invokestatic 87, 3) := by decide +kernel
theorem dL_law_98 : decode cL_law 98 = .ok (.ifCond .eq 10, 3) := by decide +kernel
theorem dL_law_101 : decode cL_law 101 = .ok (.aload_n 1, 1) := by decide +kernel
theorem dL_law_102 : decode cL_law 102 = .ok (.invokestatic 76, 3) := by decide +kernel
theorem dL_law_105 : decode cL_law 105 = .ok (.ifCond .ne 5, 3) := by decide +kernel
theorem dL_law_108 : decode cL_law 108 = .ok (.iconst 0, 1) := by decide +kernel
theorem dL_law_109 : decode cL_law 109 = .ok (.ireturn, 1) := by decide +kernel
theorem dL_law_110 : decode cL_law 110 = .ok (.aload_n 1, 1) := by decide +kernel
theorem dL_law_111 : decode cL_law 111 = .ok (.iconst 0, 1) := by decide +kernel
theorem dL_law_112 : decode cL_law 112 = .ok (.iconst 0, 1) := by decide +kernel
theorem dL_law_113 : decode cL_law 113 = .ok (.invokevirtual 14, 3) := by decide +kernel
theorem dL_law_116 : decode cL_law 116 = .ok (.bipush 16, 2) := by decide +kernel
theorem dL_law_118 : decode cL_law 118 = .ok (.idiv, 1) := by decide +kernel
theorem dL_law_119 : decode cL_law 119 = .ok (.iload 4, 2) := by decide +kernel
theorem dL_law_121 : decode cL_law 121 = .ok (.iconst 4, 1) := by decide +kernel
theorem dL_law_122 : decode cL_law 122 = .ok (.ishr, 1) := by decide +kernel
theorem dL_law_123 : decode cL_law 123 = .ok (.bipush 21, 2) := by decide +kernel
theorem dL_law_125 : decode cL_law 125 = .ok (.invokestatic 51, 3) := by decide +kernel
theorem dL_law_128 : decode cL_law 128 = .ok (.iadd, 1) := by decide +kernel
theorem dL_law_129 : decode cL_law 129 = .ok (.bipush 10, 2) := by decide +kernel
theorem dL_law_131 : decode cL_law 131 = .ok (.isub, 1) := by decide +kernel
theorem dL_law_132 : decode cL_law 132 = .ok (.istore 5, 2) := by decide +kernel
theorem dL_law_134 : decode cL_law 134 = .ok (.aload_n 1, 1) := by decide +kernel
theorem dL_law_135 : decode cL_law 135 = .ok (.iconst 1, 1) := by decide +kernel
theorem dL_law_136 : decode cL_law 136 = .ok (.iconst 0, 1) := by decide +kernel
theorem dL_law_137 : decode cL_law 137 = .ok (.invokevirtual 14, 3) := by decide +kernel
theorem dL_law_140 : decode cL_law 140 = .ok (.bipush 16, 2) := by decide +kernel
theorem dL_law_142 : decode cL_law 142 = .ok (.idiv, 1) := by decide +kernel
theorem dL_law_143 : decode cL_law 143 = .ok (.iload 4, 2) := by decide +kernel
theorem dL_law_145 : decode cL_law 145 = .ok (.bipush 9, 2) := by decide +kernel
theorem dL_law_147 : decode cL_law 147 = .ok (.ishr, 1) := by decide +kernel
theorem dL_law_148 : decode cL_law 148 = .ok (.bipush 21, 2) := by decide +kernel
theorem dL_law_150 : decode cL_law 150 = .ok (.invokestatic 51, 3) := by decide +kernel
theorem dL_law_153 : decode cL_law 153 = .ok (.iadd, 1) := by decide +kernel
theorem dL_law_154 : decode cL_law 154 = .ok (.bipush 10, 2) := by decide +kernel
theorem dL_law_156 : decode cL_law 156 = .ok (.isub, 1) := by decide +kernel
theorem dL_law_157 : decode cL_law 157 = .ok (.istore 6, 2) := by decide +kernel
theorem dL_law_159 : decode cL_law 159 = .ok (.iload 5, 2) := by decide +kernel
theorem dL_law_161 : decode cL_law 161 = .ok (.ifCond .lt 28, 3) := by decide +kernel
theorem dL_law_164 : decode cL_law 164 = .ok (.iload 5, 2) := by decide +kernel
theorem dL_law_166 : decode cL_law 166 = .ok (.sipush 256, 3) := by decide +kernel
theorem dL_law_169 : decode cL_law 169 = .ok (.if_icmp .ge 20, 3) := by decide +kernel
theorem dL_law_172 : decode cL_law 172 = .ok (.iload 6, 2) := by decide +kernel
theorem dL_law_174 : decode cL_law 174 = .ok (.ifCond .lt 15, 3) := by decide +kernel
theorem dL_law_177 : decode cL_law 177 = .ok (.iload 6, 2) := by decide +kernel
theorem dL_law_179 : decode cL_law 179 = .ok (.sipush 256, 3) := by decide +kernel
theorem dL_law_182 : decode cL_law 182 = .ok (.if_icmp .ge 7, 3) := by decide +kernel
theorem dL_law_185 : decode cL_law 185 = .ok (.iconst 1, 1) := by decide +kernel
theorem dL_law_186 : decode cL_law 186 = .ok (.goto 4, 3) := by decide +kernel
theorem dL_law_189 : decode cL_law 189 = .ok (.iconst 0, 1) := by decide +kernel
theorem dL_law_190 : decode cL_law 190 = .ok (.istore 7, 2) := by decide +kernel
theorem dL_law_192 : decode cL_law 192 = .ok (.iload 7, 2) := by decide +kernel
theorem dL_law_194 : decode cL_law 194 = .ok (.ifCond .eq 23, 3) := by decide +kernel
theorem dL_law_197 : decode cL_law 197 = .ok (.iload_n 2, 1) := by decide +kernel
theorem dL_law_198 : decode cL_law 198 = .ok (.bipush 15, 2) := by decide +kernel
theorem dL_law_200 : decode cL_law 200 = .ok (.irem, 1) := by decide +kernel
theorem dL_law_201 : decode cL_law 201 = .ok (.bipush 8, 2) := by decide +kernel
theorem dL_law_203 : decode cL_law 203 = .ok (.if_icmp .ne 14, 3) := by decide +kernel
theorem dL_law_206 : decode cL_law 206 = .ok (.aload_n 1, 1) := by decide +kernel
theorem dL_law_207 : decode cL_law 207 = .ok (.iload 5, 2) := by decide +kernel
theorem dL_law_209 : decode cL_law 209 = .ok (.iload 6, 2) := by decide +kernel
theorem dL_law_211 : decode cL_law 211 = .ok (.invokestatic 90, 3) := by decide +kernel
theorem dL_law_214 : decode cL_law 214 = .ok (.ifCond .eq 29, 3) := by decide +kernel
theorem dL_law_217 : decode cL_law 217 = .ok (.iload_n 2, 1) := by decide +kernel
theorem dL_law_218 : decode cL_law 218 = .ok (.bipush 20, 2) := by decide +kernel
theorem dL_law_220 : decode cL_law 220 = .ok (.irem, 1) := by decide +kernel
theorem dL_law_221 : decode cL_law 221 = .ok (.bipush 13, 2) := by decide +kernel
theorem dL_law_223 : decode cL_law 223 = .ok (.if_icmp .ne 22, 3) := by decide +kernel
theorem dL_law_226 : decode cL_law 226 = .ok (.aload_n 1, 1) := by decide +kernel
theorem dL_law_227 : decode cL_law 227 = .ok (.iload_n 3, 1) := by decide +kernel
theorem dL_law_228 : decode cL_law 228 = .ok (.iconst 4, 1) := by decide +kernel
theorem dL_law_229 : decode cL_law 229 = .ok (.ishr, 1) := by decide +kernel
theorem dL_law_230 : decode cL_law 230 = .ok (.iconst 1, 1) := by decide +kernel
theorem dL_law_231 : decode cL_law 231 = .ok (.iand, 1) := by decide +kernel
theorem dL_law_232 : decode cL_law 232 = .ok (.iload_n 3, 1) := by decide +kernel
theorem dL_law_233 : decode cL_law 233 = .ok (.iconst 5, 1) := by decide +kernel
theorem dL_law_234 : decode cL_law 234 = .ok (.ishr, 1) := by decide +kernel
theorem dL_law_235 : decode cL_law 235 = .ok (.iconst 1, 1) := by decide +kernel
theorem dL_law_236 : decode cL_law 236 = .ok (.iand, 1) := by decide +kernel
theorem dL_law_237 : decode cL_law 237 = .ok (.invokestatic 93, 3) := by decide +kernel
theorem dL_law_240 : decode cL_law 240 = .ok (.ifCond .ne 5, 3) := by decide +kernel
theorem dL_law_243 : decode cL_law 243 = .ok (.iconst 0, 1) := by decide +kernel
theorem dL_law_244 : decode cL_law 244 = .ok (.ireturn, 1) := by decide +kernel
theorem dL_law_245 : decode cL_law 245 = .ok (.iinc 2 1, 3) := by decide +kernel
theorem dL_law_248 : decode cL_law 248 = .ok (.goto (-182), 3) := by decide +kernel
theorem dL_law_251 : decode cL_law 251 = .ok (.aload_n 1, 1) := by decide +kernel
theorem dL_law_252 : decode cL_law 252 = .ok (.sipush 256, 3) := by decide +kernel
theorem dL_law_255 : decode cL_law 255 = .ok (.iconst 0, 1) := by decide +kernel
theorem dL_law_256 : decode cL_law 256 = .ok (.invokevirtual 32, 3) := by decide +kernel
theorem dL_law_259 : decode cL_law 259 = .ok (.bipush (-2), 2) := by decide +kernel
theorem dL_law_261 : decode cL_law 261 = .ok (.if_icmp .ne 77, 3) := by decide +kernel
theorem dL_law_264 : decode cL_law 264 = .ok (.aload_n 1, 1) := by decide +kernel
theorem dL_law_265 : decode cL_law 265 = .ok (.iconst 0, 1) := by decide +kernel
theorem dL_law_266 : decode cL_law 266 = .ok (.iconst 0, 1) := by decide +kernel
theorem dL_law_267 : decode cL_law 267 = .ok (.sipush 201, 3) := by decide +kernel
theorem dL_law_270 : decode cL_law 270 = .ok (.invokevirtual 71, 3) := by decide +kernel
theorem dL_law_273 : decode cL_law 273 = .ok (.bipush (-2), 2) := by decide +kernel
theorem dL_law_275 : decode cL_law 275 = .ok (.if_icmp .ne 63, 3) := by decide +kernel
theorem dL_law_278 : decode cL_law 278 = .ok (.aload_n 1, 1) := by decide +kernel
theorem dL_law_279 : decode cL_law 279 = .ok (.bipush 7, 2) := by decide +kernel
theorem dL_law_281 : decode cL_law 281 = .ok (.iconst 1, 1) := by decide +kernel
theorem dL_law_282 : decode cL_law 282 = .ok (.invokevirtual 54, 3) := by decide +kernel
theorem dL_law_285 : decode cL_law 285 = .ok (.bipush (-2), 2) := by decide +kernel
theorem dL_law_287 : decode cL_law 287 = .ok (.if_icmp .ne 51, 3) := by decide +kernel
theorem dL_law_290 : decode cL_law 290 = .ok (.aload_n 1, 1) := by decide +kernel
theorem dL_law_291 : decode cL_law 291 = .ok (.iconst 3, 1) := by decide +kernel
theorem dL_law_292 : decode cL_law 292 = .ok (.bipush 59, 2) := by decide +kernel
theorem dL_law_294 : decode cL_law 294 = .ok (.invokevirtual 54, 3) := by decide +kernel
theorem dL_law_297 : decode cL_law 297 = .ok (.bipush (-2), 2) := by decide +kernel
theorem dL_law_299 : decode cL_law 299 = .ok (.if_icmp .ne 39, 3) := by decide +kernel
theorem dL_law_302 : decode cL_law 302 = .ok (.aload_n 1, 1) := by decide +kernel
theorem dL_law_303 : decode cL_law 303 = .ok (.iconst 2, 1) := by decide +kernel
theorem dL_law_304 : decode cL_law 304 = .ok (.iconst 0, 1) := by decide +kernel
theorem dL_law_305 : decode cL_law 305 = .ok (.invokevirtual 47, 3) := by decide +kernel
theorem dL_law_308 : decode cL_law 308 = .ok (.iconst (-1), 1) := by decide +kernel
theorem dL_law_309 : decode cL_law 309 = .ok (.if_icmp .ne 29, 3) := by decide +kernel
theorem dL_law_312 : decode cL_law 312 = .ok (.aload_n 1, 1) := by decide +kernel
theorem dL_law_313 : decode cL_law 313 = .ok (.iconst 0, 1) := by decide +kernel
theorem dL_law_314 : decode cL_law 314 = .ok (.iconst 2, 1) := by decide +kernel
theorem dL_law_315 : decode cL_law 315 = .ok (.invokevirtual 47, 3) := by decide +kernel
theorem dL_law_318 : decode cL_law 318 = .ok (.bipush (-2), 2) := by decide +kernel
theorem dL_law_320 : decode cL_law 320 = .ok (.if_icmp .ne 18, 3) := by decide +kernel
theorem dL_law_323 : decode cL_law 323 = .ok (.aload_n 1, 1) := by decide +kernel
theorem dL_law_324 : decode cL_law 324 = .ok (.bipush 19, 2) := by decide +kernel
theorem dL_law_326 : decode cL_law 326 = .ok (.invokevirtual 8, 3) := by decide +kernel
theorem dL_law_329 : decode cL_law 329 = .ok (.bipush (-2), 2) := by decide +kernel
theorem dL_law_331 : decode cL_law 331 = .ok (.if_icmp .ne 7, 3) := by decide +kernel
theorem dL_law_334 : decode cL_law 334 = .ok (.iconst 1, 1) := by decide +kernel
theorem dL_law_335 : decode cL_law 335 = .ok (.goto 4, 3) := by decide +kernel
theorem dL_law_338 : decode cL_law 338 = .ok (.iconst 0, 1) := by decide +kernel
theorem dL_law_339 : decode cL_law 339 = .ok (.ireturn, 1) := by decide +kernel
