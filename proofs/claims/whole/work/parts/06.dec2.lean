theorem dX4_init_0 : decode cX4_init 0 = .ok (.aload_n 0, 1) := by decide +kernel
theorem dX4_init_1 : decode cX4_init 1 = .ok (.invokespecial 1, 3) := by decide +kernel
theorem dX4_init_4 : decode cX4_init 4 = .ok (.aload_n 0, 1) := by decide +kernel
theorem dX4_init_5 : decode cX4_init 5 = .ok (.new 7, 3) := by decide +kernel
theorem dX4_init_8 : decode cX4_init 8 = .ok (.dup, 1) := by decide +kernel
theorem dX4_init_9 : decode cX4_init 9 = .ok (.invokespecial 9, 3) := by decide +kernel
theorem dX4_init_12 : decode cX4_init 12 = .ok (.putfield 10, 3) := by decide +kernel
theorem dX4_init_15 : decode cX4_init 15 = .ok (.aload_n 0, 1) := by decide +kernel
theorem dX4_init_16 : decode cX4_init 16 = .ok (.new 7, 3) := by decide +kernel
theorem dX4_init_19 : decode cX4_init 19 = .ok (.dup, 1) := by decide +kernel
theorem dX4_init_20 : decode cX4_init 20 = .ok (.invokespecial 9, 3) := by decide +kernel
theorem dX4_init_23 : decode cX4_init 23 = .ok (.putfield 16, 3) := by decide +kernel
theorem dX4_init_26 : decode cX4_init 26 = .ok (.aload_n 0, 1) := by decide +kernel
theorem dX4_init_27 : decode cX4_init 27 = .ok (.new 19, 3) := by decide +kernel
theorem dX4_init_30 : decode cX4_init 30 = .ok (.dup, 1) := by decide +kernel
theorem dX4_init_31 : decode cX4_init 31 = .ok (.invokespecial 21, 3) := by decide +kernel
theorem dX4_init_34 : decode cX4_init 34 = .ok (.putfield 22, 3) := by decide +kernel
theorem dX4_init_37 : decode cX4_init 37 = .ok (.aload_n 0, 1) := by decide +kernel
theorem dX4_init_38 : decode cX4_init 38 = .ok (.new 26, 3) := by decide +kernel
theorem dX4_init_41 : decode cX4_init 41 = .ok (.dup, 1) := by decide +kernel
theorem dX4_init_42 : decode cX4_init 42 = .ok (.invokespecial 28, 3) := by decide +kernel
theorem dX4_init_45 : decode cX4_init 45 = .ok (.putfield 29, 3) := by decide +kernel
theorem dX4_init_48 : decode cX4_init 48 = .ok (.aload_n 0, 1) := by decide +kernel
theorem dX4_init_49 : decode cX4_init 49 = .ok (.iconst 2, 1) := by decide +kernel
theorem dX4_init_50 : decode cX4_init 50 = .ok (.anewarray 7, 3) := by decide +kernel
theorem dX4_init_53 : decode cX4_init 53 = .ok (.putfield 33, 3) := by decide +kernel
theorem dX4_init_56 : decode cX4_init 56 = .ok (.return_, 1) := by decide +kernel
theorem dX4_set_0 : decode cX4_set 0 = .ok (.iload_n 1, 1) := by decide +kernel
theorem dX4_set_1 : decode cX4_set 1 = .ok (.ifCond .lt 27, 3) := by decide +kernel
theorem dX4_set_4 : decode cX4_set 4 = .ok (.iload_n 1, 1) := by decide +kernel
theorem dX4_set_5 : decode cX4_set 5 = .ok (.bipush 7, 2) := by decide +kernel
theorem dX4_set_7 : decode cX4_set 7 = .ok (.if_icmp .ge 21, 3) := by decide +kernel
theorem dX4_set_10 : decode cX4_set 10 = .ok (.iload_n 2, 1) := by decide +kernel
theorem dX4_set_11 : decode cX4_set 11 = .ok (.getstatic 37, 3) := by decide +kernel
theorem dX4_set_14 : decode cX4_set 14 = .ok (.iload_n 1, 1) := by decide +kernel
theorem dX4_set_15 : decode cX4_set 15 = .ok (.iaload, 1) := by decide +kernel
theorem dX4_set_16 : decode cX4_set 16 = .ok (.if_icmp .lt 12, 3) := by decide +kernel
theorem dX4_set_19 : decode cX4_set 19 = .ok (.iload_n 2, 1) := by decide +kernel
theorem dX4_set_20 : decode cX4_set 20 = .ok (.getstatic 41, 3) := by decide +kernel
theorem dX4_set_23 : decode cX4_set 23 = .ok (.iload_n 1, 1) := by decide +kernel
theorem dX4_set_24 : decode cX4_set 24 = .ok (.iaload, 1) := by decide +kernel
theorem dX4_set_25 : decode cX4_set 25 = .ok (.if_icmp .le 6, 3) := by decide +kernel
theorem dX4_set_28 : decode cX4_set 28 = .ok (.bipush (-2), 2) := by decide +kernel
theorem dX4_set_30 : decode cX4_set 30 = .ok (.ireturn, 1) := by decide +kernel
theorem dX4_set_31 : decode cX4_set 31 = .ok (.aload_n 0, 1) := by decide +kernel
theorem dX4_set_32 : decode cX4_set 32 = .ok (.getfield 29, 3) := by decide +kernel
theorem dX4_set_35 : decode cX4_set 35 = .ok (.aload_n 0, 1) := by decide +kernel
theorem dX4_set_36 : decode cX4_set 36 = .ok (.getfield 10, 3) := by decide +kernel
theorem dX4_set_39 : decode cX4_set 39 = .ok (.invokevirtual 44, 3) := by decide +kernel
theorem dX4_set_42 : decode cX4_set 42 = .ok (.aload_n 0, 1) := by decide +kernel
theorem dX4_set_43 : decode cX4_set 43 = .ok (.getfield 10, 3) := by decide +kernel
theorem dX4_set_46 : decode cX4_set 46 = .ok (.iload_n 1, 1) := by decide +kernel
theorem dX4_set_47 : decode cX4_set 47 = .ok (.iload_n 2, 1) := by decide +kernel
theorem dX4_set_48 : decode cX4_set 48 = .ok (.invokevirtual 48, 3) := by decide +kernel
theorem dX4_set_51 : decode cX4_set 51 = .ok (.ireturn, 1) := by decide +kernel
theorem dX4_sample_0 : decode cX4_sample 0 = .ok (.aload_n 0, 1) := by decide +kernel
theorem dX4_sample_1 : decode cX4_sample 1 = .ok (.iload_n 1, 1) := by decide +kernel
theorem dX4_sample_2 : decode cX4_sample 2 = .ok (.iload_n 2, 1) := by decide +kernel
theorem dX4_sample_3 : decode cX4_sample 3 = .ok (.iconst 1, 1) := by decide +kernel
theorem dX4_sample_4 : decode cX4_sample 4 = .ok (.invokevirtual 52, 3) := by decide +kernel
theorem dX4_sample_7 : decode cX4_sample 7 = .ok (.ireturn, 1) := by decide +kernel
theorem dX4_hold_0 : decode cX4_hold 0 = .ok (.iload_n 3, 1) := by decide +kernel
theorem dX4_hold_1 : decode cX4_hold 1 = .ok (.iconst 1, 1) := by decide +kernel
theorem dX4_hold_2 : decode cX4_hold 2 = .ok (.if_icmp .lt 10, 3) := by decide +kernel
theorem dX4_hold_5 : decode cX4_hold 5 = .ok (.iload_n 3, 1) := by decide +kernel
theorem dX4_hold_6 : decode cX4_hold 6 = .ok (.sipush 200, 3) := by decide +kernel
theorem dX4_hold_9 : decode cX4_hold 9 = .ok (.if_icmp .le 6, 3) := by decide +kernel
theorem dX4_hold_12 : decode cX4_hold 12 = .ok (.bipush (-2), 2) := by decide +kernel
theorem dX4_hold_14 : decode cX4_hold 14 = .ok (.ireturn, 1) := by decide +kernel
theorem dX4_hold_15 : decode cX4_hold 15 = .ok (.aload_n 0, 1) := by decide +kernel
theorem dX4_hold_16 : decode cX4_hold 16 = .ok (.iload_n 1, 1) := by decide +kernel
theorem dX4_hold_17 : decode cX4_hold 17 = .ok (.iload_n 2, 1) := by decide +kernel
theorem dX4_hold_18 : decode cX4_hold 18 = .ok (.iload_n 3, 1) := by decide +kernel
theorem dX4_hold_19 : decode cX4_hold 19 = .ok (.invokevirtual 52, 3) := by decide +kernel
theorem dX4_hold_22 : decode cX4_hold 22 = .ok (.ireturn, 1) := by decide +kernel
theorem dX4_takeAlike_0 : decode cX4_takeAlike 0 = .ok (.aload_n 0, 1) := by decide +kernel
theorem dX4_takeAlike_1 : decode cX4_takeAlike 1 = .ok (.getfield 10, 3) := by decide +kernel
theorem dX4_takeAlike_4 : decode cX4_takeAlike 4 = .ok (.iload_n 1, 1) := by decide +kernel
theorem dX4_takeAlike_5 : decode cX4_takeAlike 5 = .ok (.iload_n 2, 1) := by decide +kernel
theorem dX4_takeAlike_6 : decode cX4_takeAlike 6 = .ok (.iload_n 3, 1) := by decide +kernel
theorem dX4_takeAlike_7 : decode cX4_takeAlike 7 = .ok (.invokevirtual 56, 3) := by decide +kernel
theorem dX4_takeAlike_10 : decode cX4_takeAlike 10 = .ok (.istore 4, 2) := by decide +kernel
theorem dX4_takeAlike_12 : decode cX4_takeAlike 12 = .ok (.iload 4, 2) := by decide +kernel
theorem dX4_takeAlike_14 : decode cX4_takeAlike 14 = .ok (.ifCond .eq 6, 3) := by decide +kernel
theorem dX4_takeAlike_17 : decode cX4_takeAlike 17 = .ok (.iload 4, 2) := by decide +kernel
theorem dX4_takeAlike_19 : decode cX4_takeAlike 19 = .ok (.ireturn, 1) := by decide +kernel
theorem dX4_takeAlike_20 : decode cX4_takeAlike 20 = .ok (.aload_n 0, 1) := by decide +kernel
theorem dX4_takeAlike_21 : decode cX4_takeAlike 21 = .ok (.getfield 29, 3) := by decide +kernel
theorem dX4_takeAlike_24 : decode cX4_takeAlike 24 = .ok (.aload_n 0, 1) := by decide +kernel
theorem dX4_takeAlike_25 : decode cX4_takeAlike 25 = .ok (.getfield 10, 3) := by decide +kernel
theorem dX4_takeAlike_28 : decode cX4_takeAlike 28 = .ok (.invokevirtual 44, 3) := by decide +kernel
theorem dX4_takeAlike_31 : decode cX4_takeAlike 31 = .ok (.iconst 0, 1) := by decide +kernel
theorem dX4_takeAlike_32 : decode cX4_takeAlike 32 = .ok (.istore 5, 2) := by decide +kernel
theorem dX4_takeAlike_34 : decode cX4_takeAlike 34 = .ok (.iload 5, 2) := by decide +kernel
theorem dX4_takeAlike_36 : decode cX4_takeAlike 36 = .ok (.iload_n 3, 1) := by decide +kernel
theorem dX4_takeAlike_37 : decode cX4_takeAlike 37 = .ok (.if_icmp .ge 18, 3) := by decide +kernel
theorem dX4_takeAlike_40 : decode cX4_takeAlike 40 = .ok (.aload_n 0, 1) := by decide +kernel
theorem dX4_takeAlike_41 : decode cX4_takeAlike 41 = .ok (.getfield 10, 3) := by decide +kernel
theorem dX4_takeAlike_44 : decode cX4_takeAlike 44 = .ok (.iload_n 1, 1) := by decide +kernel
theorem dX4_takeAlike_45 : decode cX4_takeAlike 45 = .ok (.iload_n 2, 1) := by decide +kernel
theorem dX4_takeAlike_46 : decode cX4_takeAlike 46 = .ok (.invokevirtual 59, 3) := by decide +kernel
theorem dX4_takeAlike_49 : decode cX4_takeAlike 49 = .ok (.iinc 5 1, 3) := by decide +kernel
theorem dX4_takeAlike_52 : decode cX4_takeAlike 52 = .ok (.goto (-18), 3) := by decide +kernel
theorem dX4_takeAlike_55 : decode cX4_takeAlike 55 = .ok (.aload_n 0, 1) := by decide +kernel
theorem dX4_takeAlike_56 : decode cX4_takeAlike 56 = .ok (.getfield 10, 3) := by decide +kernel
theorem dX4_takeAlike_59 : decode cX4_takeAlike 59 = .ok (.invokevirtual 63, 3) := by decide +kernel
theorem dX4_takeAlike_62 : decode cX4_takeAlike 62 = .ok (.ireturn, 1) := by decide +kernel
theorem dX4_press_0 : decode cX4_press 0 = .ok (.aload_n 0, 1) := by decide +kernel
theorem dX4_press_1 : decode cX4_press 1 = .ok (.getfield 10, 3) := by decide +kernel
theorem dX4_press_4 : decode cX4_press 4 = .ok (.iload_n 1, 1) := by decide +kernel
theorem dX4_press_5 : decode cX4_press 5 = .ok (.invokevirtual 67, 3) := by decide +kernel
theorem dX4_press_8 : decode cX4_press 8 = .ok (.istore_n 2, 1) := by decide +kernel
theorem dX4_press_9 : decode cX4_press 9 = .ok (.iload_n 2, 1) := by decide +kernel
theorem dX4_press_10 : decode cX4_press 10 = .ok (.ifCond .eq 5, 3) := by decide +kernel
theorem dX4_press_13 : decode cX4_press 13 = .ok (.iload_n 2, 1) := by decide +kernel
theorem dX4_press_14 : decode cX4_press 14 = .ok (.ireturn, 1) := by decide +kernel
theorem dX4_press_15 : decode cX4_press 15 = .ok (.aload_n 0, 1) := by decide +kernel
theorem dX4_press_16 : decode cX4_press 16 = .ok (.getfield 29, 3) := by decide +kernel
theorem dX4_press_19 : decode cX4_press 19 = .ok (.aload_n 0, 1) := by decide +kernel
theorem dX4_press_20 : decode cX4_press 20 = .ok (.getfield 10, 3) := by decide +kernel
theorem dX4_press_23 : decode cX4_press 23 = .ok (.invokevirtual 44, 3) := by decide +kernel
theorem dX4_press_26 : decode cX4_press 26 = .ok (.aload_n 0, 1) := by decide +kernel
theorem dX4_press_27 : decode cX4_press 27 = .ok (.getfield 10, 3) := by decide +kernel
theorem dX4_press_30 : decode cX4_press 30 = .ok (.iload_n 1, 1) := by decide +kernel
theorem dX4_press_31 : decode cX4_press 31 = .ok (.invokevirtual 71, 3) := by decide +kernel
theorem dX4_press_34 : decode cX4_press 34 = .ok (.ireturn, 1) := by decide +kernel
theorem dX4_letUp_0 : decode cX4_letUp 0 = .ok (.aload_n 0, 1) := by decide +kernel
theorem dX4_letUp_1 : decode cX4_letUp 1 = .ok (.getfield 10, 3) := by decide +kernel
theorem dX4_letUp_4 : decode cX4_letUp 4 = .ok (.iload_n 1, 1) := by decide +kernel
theorem dX4_letUp_5 : decode cX4_letUp 5 = .ok (.invokevirtual 74, 3) := by decide +kernel
theorem dX4_letUp_8 : decode cX4_letUp 8 = .ok (.istore_n 2, 1) := by decide +kernel
theorem dX4_letUp_9 : decode cX4_letUp 9 = .ok (.iload_n 2, 1) := by decide +kernel
theorem dX4_letUp_10 : decode cX4_letUp 10 = .ok (.ifCond .eq 5, 3) := by decide +kernel
theorem dX4_letUp_13 : decode cX4_letUp 13 = .ok (.iload_n 2, 1) := by decide +kernel
theorem dX4_letUp_14 : decode cX4_letUp 14 = .ok (.ireturn, 1) := by decide +kernel
theorem dX4_letUp_15 : decode cX4_letUp 15 = .ok (.aload_n 0, 1) := by decide +kernel
theorem dX4_letUp_16 : decode cX4_letUp 16 = .ok (.getfield 29, 3) := by decide +kernel
theorem dX4_letUp_19 : decode cX4_letUp 19 = .ok (.aload_n 0, 1) := by decide +kernel
theorem dX4_letUp_20 : decode cX4_letUp 20 = .ok (.getfield 10, 3) := by decide +kernel
theorem dX4_letUp_23 : decode cX4_letUp 23 = .ok (.invokevirtual 44, 3) := by decide +kernel
theorem dX4_letUp_26 : decode cX4_letUp 26 = .ok (.aload_n 0, 1) := by decide +kernel
theorem dX4_letUp_27 : decode cX4_letUp 27 = .ok (.getfield 10, 3) := by decide +kernel
theorem dX4_letUp_30 : decode cX4_letUp 30 = .ok (.iload_n 1, 1) := by decide +kernel
theorem dX4_letUp_31 : decode cX4_letUp 31 = .ok (.invokevirtual 77, 3) := by decide +kernel
theorem dX4_letUp_34 : decode cX4_letUp 34 = .ok (.ireturn, 1) := by decide +kernel
theorem dX4_reset_0 : decode cX4_reset 0 = .ok (.aload_n 0, 1) := by decide +kernel
theorem dX4_reset_1 : decode cX4_reset 1 = .ok (.getfield 29, 3) := by decide +kernel
theorem dX4_reset_4 : decode cX4_reset 4 = .ok (.aload_n 0, 1) := by decide +kernel
theorem dX4_reset_5 : decode cX4_reset 5 = .ok (.getfield 10, 3) := by decide +kernel
theorem dX4_reset_8 : decode cX4_reset 8 = .ok (.invokevirtual 44, 3) := by decide +kernel
theorem dX4_reset_11 : decode cX4_reset 11 = .ok (.aload_n 0, 1) := by decide +kernel
theorem dX4_reset_12 : decode cX4_reset 12 = .ok (.getfield 10, 3) := by decide +kernel
theorem dX4_reset_15 : decode cX4_reset 15 = .ok (.invokevirtual 80, 3) := by decide +kernel
theorem dX4_reset_18 : decode cX4_reset 18 = .ok (.ireturn, 1) := by decide +kernel
theorem dX4_of_0 : decode cX4_of 0 = .ok (.iload_n 1, 1) := by decide +kernel
theorem dX4_of_1 : decode cX4_of 1 = .ok (.ifCond .eq 10, 3) := by decide +kernel
theorem dX4_of_4 : decode cX4_of 4 = .ok (.iload_n 1, 1) := by decide +kernel
theorem dX4_of_5 : decode cX4_of 5 = .ok (.iconst 1, 1) := by decide +kernel
theorem dX4_of_6 : decode cX4_of 6 = .ok (.if_icmp .eq 5, 3) := by decide +kernel
theorem dX4_of_9 : decode cX4_of 9 = .ok (.iconst (-1), 1) := by decide +kernel
theorem dX4_of_10 : decode cX4_of 10 = .ok (.ireturn, 1) := by decide +kernel
theorem dX4_of_11 : decode cX4_of 11 = .ok (.iload_n 1, 1) := by decide +kernel
theorem dX4_of_12 : decode cX4_of 12 = .ok (.ifCond .ne 14, 3) := by decide +kernel
theorem dX4_of_15 : decode cX4_of 15 = .ok (.aload_n 0, 1) := by decide +kernel
theorem dX4_of_16 : decode cX4_of 16 = .ok (.getfield 10, 3) := by decide +kernel
theorem dX4_of_19 : decode cX4_of 19 = .ok (.iload_n 2, 1) := by decide +kernel
theorem dX4_of_20 : decode cX4_of 20 = .ok (.invokevirtual 83, 3) := by decide +kernel
theorem dX4_of_23 : decode cX4_of 23 = .ok (.goto 11, 3) := by decide +kernel
theorem dX4_of_26 : decode cX4_of 26 = .ok (.aload_n 0, 1) := by decide +kernel
theorem dX4_of_27 : decode cX4_of 27 = .ok (.getfield 10, 3) := by decide +kernel
theorem dX4_of_30 : decode cX4_of 30 = .ok (.iload_n 2, 1) := by decide +kernel
theorem dX4_of_31 : decode cX4_of 31 = .ok (.invokevirtual 86, 3) := by decide +kernel
theorem dX4_of_34 : decode cX4_of 34 = .ok (.ireturn, 1) := by decide +kernel
theorem dX4_direction_0 : decode cX4_direction 0 = .ok (.aload_n 0, 1) := by decide +kernel
theorem dX4_direction_1 : decode cX4_direction 1 = .ok (.getfield 10, 3) := by decide +kernel
theorem dX4_direction_4 : decode cX4_direction 4 = .ok (.getfield 89, 3) := by decide +kernel
theorem dX4_direction_7 : decode cX4_direction 7 = .ok (.iload_n 1, 1) := by decide +kernel
theorem dX4_direction_8 : decode cX4_direction 8 = .ok (.iload_n 2, 1) := by decide +kernel
theorem dX4_direction_9 : decode cX4_direction 9 = .ok (.invokevirtual 93, 3) := by decide +kernel
theorem dX4_direction_12 : decode cX4_direction 12 = .ok (.ireturn, 1) := by decide +kernel
theorem dX4_count_0 : decode cX4_count 0 = .ok (.iload_n 1, 1) := by decide +kernel
theorem dX4_count_1 : decode cX4_count 1 = .ok (.lookupswitch 43 #[(17, 27), (18, 35)], 27) := by decide +kernel
theorem dX4_count_28 : decode cX4_count 28 = .ok (.aload_n 0, 1) := by decide +kernel
theorem dX4_count_29 : decode cX4_count 29 = .ok (.getfield 22, 3) := by decide +kernel
theorem dX4_count_32 : decode cX4_count 32 = .ok (.getfield 98, 3) := by decide +kernel
theorem dX4_count_35 : decode cX4_count 35 = .ok (.ireturn, 1) := by decide +kernel
theorem dX4_count_36 : decode cX4_count 36 = .ok (.aload_n 0, 1) := by decide +kernel
theorem dX4_count_37 : decode cX4_count 37 = .ok (.getfield 29, 3) := by decide +kernel
theorem dX4_count_40 : decode cX4_count 40 = .ok (.getfield 102, 3) := by decide +kernel
theorem dX4_count_43 : decode cX4_count 43 = .ok (.ireturn, 1) := by decide +kernel
theorem dX4_count_44 : decode cX4_count 44 = .ok (.aload_n 0, 1) := by decide +kernel
theorem dX4_count_45 : decode cX4_count 45 = .ok (.getfield 10, 3) := by decide +kernel
theorem dX4_count_48 : decode cX4_count 48 = .ok (.iload_n 1, 1) := by decide +kernel
theorem dX4_count_49 : decode cX4_count 49 = .ok (.invokevirtual 105, 3) := by decide +kernel
theorem dX4_count_52 : decode cX4_count 52 = .ok (.ireturn, 1) := by decide +kernel
theorem dX4_wouldTell_0 : decode cX4_wouldTell 0 = .ok (.iload_n 1, 1) := by decide +kernel
theorem dX4_wouldTell_1 : decode cX4_wouldTell 1 = .ok (.iload_n 2, 1) := by decide +kernel
theorem dX4_wouldTell_2 : decode cX4_wouldTell 2 = .ok (.invokestatic 108, 3) := by decide +kernel
theorem dX4_wouldTell_5 : decode cX4_wouldTell 5 = .ok (.ifCond .eq 15, 3) := by decide +kernel
theorem dX4_wouldTell_8 : decode cX4_wouldTell 8 = .ok (.aload_n 0, 1) := by decide +kernel
theorem dX4_wouldTell_9 : decode cX4_wouldTell 9 = .ok (.getfield 10, 3) := by decide +kernel
theorem dX4_wouldTell_12 : decode cX4_wouldTell 12 = .ok (.iload_n 1, 1) := by decide +kernel
theorem dX4_wouldTell_13 : decode cX4_wouldTell 13 = .ok (.iload_n 2, 1) := by decide +kernel
theorem dX4_wouldTell_14 : decode cX4_wouldTell 14 = .ok (.invokevirtual 112, 3) := by decide +kernel
theorem dX4_wouldTell_17 : decode cX4_wouldTell 17 = .ok (.goto 5, 3) := by decide +kernel
theorem dX4_wouldTell_20 : decode cX4_wouldTell 20 = .ok (.bipush (-2), 2) := by decide +kernel
theorem dX4_wouldTell_22 : decode cX4_wouldTell 22 = .ok (.ireturn, 1) := by decide +kernel
theorem dX4_learnedIn_0 : decode cX4_learnedIn 0 = .ok (.iload_n 1, 1) := by decide +kernel
theorem dX4_learnedIn_1 : decode cX4_learnedIn 1 = .ok (.iload_n 2, 1) := by decide +kernel
theorem dX4_learnedIn_2 : decode cX4_learnedIn 2 = .ok (.invokestatic 108, 3) := by decide +kernel
theorem dX4_learnedIn_5 : decode cX4_learnedIn 5 = .ok (.ifCond .ne 6, 3) := by decide +kernel
theorem dX4_learnedIn_8 : decode cX4_learnedIn 8 = .ok (.bipush (-2), 2) := by decide +kernel
theorem dX4_learnedIn_10 : decode cX4_learnedIn 10 = .ok (.ireturn, 1) := by decide +kernel
theorem dX4_learnedIn_11 : decode cX4_learnedIn 11 = .ok (.aload_n 0, 1) := by decide +kernel
theorem dX4_learnedIn_12 : decode cX4_learnedIn 12 = .ok (.getfield 16, 3) := by decide +kernel
theorem dX4_learnedIn_15 : decode cX4_learnedIn 15 = .ok (.aload_n 0, 1) := by decide +kernel
theorem dX4_learnedIn_16 : decode cX4_learnedIn 16 = .ok (.getfield 10, 3) := by decide +kernel
theorem dX4_learnedIn_19 : decode cX4_learnedIn 19 = .ok (.invokevirtual 115, 3) := by decide +kernel
theorem dX4_learnedIn_22 : decode cX4_learnedIn 22 = .ok (.iconst 0, 1) := by decide +kernel
theorem dX4_learnedIn_23 : decode cX4_learnedIn 23 = .ok (.istore_n 3, 1) := by decide +kernel
theorem dX4_learnedIn_24 : decode cX4_learnedIn 24 = .ok (.iload_n 3, 1) := by decide +kernel
theorem dX4_learnedIn_25 : decode cX4_learnedIn 25 = .ok (.sipush 500, 3) := by decide +kernel
theorem dX4_learnedIn_28 : decode cX4_learnedIn 28 = .ok (.if_icmp .gt 32, 3) := by decide +kernel
theorem dX4_learnedIn_31 : decode cX4_learnedIn 31 = .ok (.aload_n 0, 1) := by decide +kernel
theorem dX4_learnedIn_32 : decode cX4_learnedIn 32 = .ok (.getfield 16, 3) := by decide +kernel
theorem dX4_learnedIn_35 : decode cX4_learnedIn 35 = .ok (.iload_n 1, 1) := by decide +kernel
theorem dX4_learnedIn_36 : decode cX4_learnedIn 36 = .ok (.iload_n 2, 1) := by decide +kernel
theorem dX4_learnedIn_37 : decode cX4_learnedIn 37 = .ok (.invokevirtual 118, 3) := by decide +kernel
theorem dX4_learnedIn_40 : decode cX4_learnedIn 40 = .ok (.ifCond .eq 5, 3) := by decide +kernel
theorem dX4_learnedIn_43 : decode cX4_learnedIn 43 = .ok (.iload_n 3, 1) := by decide +kernel
theorem dX4_learnedIn_44 : decode cX4_learnedIn 44 = .ok (.ireturn, 1) := by decide +kernel
theorem dX4_learnedIn_45 : decode cX4_learnedIn 45 = .ok (.aload_n 0, 1) := by decide +kernel
theorem dX4_learnedIn_46 : decode cX4_learnedIn 46 = .ok (.getfield 16, 3) := by decide +kernel
theorem dX4_learnedIn_49 : decode cX4_learnedIn 49 = .ok (.iload_n 1, 1) := by decide +kernel
theorem dX4_learnedIn_50 : decode cX4_learnedIn 50 = .ok (.iload_n 2, 1) := by decide +kernel
theorem dX4_learnedIn_51 : decode cX4_learnedIn 51 = .ok (.invokevirtual 59, 3) := by decide +kernel
theorem dX4_learnedIn_54 : decode cX4_learnedIn 54 = .ok (.iinc 3 1, 3) := by decide +kernel
theorem dX4_learnedIn_57 : decode cX4_learnedIn 57 = .ok (.goto (-33), 3) := by decide +kernel
theorem dX4_learnedIn_60 : decode cX4_learnedIn 60 = .ok (.bipush (-6), 2) := by decide +kernel
theorem dX4_learnedIn_62 : decode cX4_learnedIn 62 = .ok (.ireturn, 1) := by decide +kernel
theorem dX4_edge_0 : decode cX4_edge 0 = .ok (.iload_n 1, 1) := by decide +kernel
theorem dX4_edge_1 : decode cX4_edge 1 = .ok (.ifCond .eq 10, 3) := by decide +kernel
theorem dX4_edge_4 : decode cX4_edge 4 = .ok (.iload_n 1, 1) := by decide +kernel
theorem dX4_edge_5 : decode cX4_edge 5 = .ok (.iconst 1, 1) := by decide +kernel
theorem dX4_edge_6 : decode cX4_edge 6 = .ok (.if_icmp .eq 5, 3) := by decide +kernel
theorem dX4_edge_9 : decode cX4_edge 9 = .ok (.iconst (-1), 1) := by decide +kernel
theorem dX4_edge_10 : decode cX4_edge 10 = .ok (.ireturn, 1) := by decide +kernel
theorem dX4_edge_11 : decode cX4_edge 11 = .ok (.iload_n 2, 1) := by decide +kernel
theorem dX4_edge_12 : decode cX4_edge 12 = .ok (.ifCond .eq 11, 3) := by decide +kernel
theorem dX4_edge_15 : decode cX4_edge 15 = .ok (.iload_n 2, 1) := by decide +kernel
theorem dX4_edge_16 : decode cX4_edge 16 = .ok (.iconst 1, 1) := by decide +kernel
theorem dX4_edge_17 : decode cX4_edge 17 = .ok (.if_icmp .eq 6, 3) := by decide +kernel
theorem dX4_edge_20 : decode cX4_edge 20 = .ok (.bipush (-2), 2) := by decide +kernel
theorem dX4_edge_22 : decode cX4_edge 22 = .ok (.ireturn, 1) := by decide +kernel
theorem dX4_edge_23 : decode cX4_edge 23 = .ok (.iload_n 2, 1) := by decide +kernel
theorem dX4_edge_24 : decode cX4_edge 24 = .ok (.iconst 1, 1) := by decide +kernel
theorem dX4_edge_25 : decode cX4_edge 25 = .ok (.if_icmp .ne 7, 3) := by decide +kernel
theorem dX4_edge_28 : decode cX4_edge 28 = .ok (.iconst 1, 1) := by decide +kernel
theorem dX4_edge_29 : decode cX4_edge 29 = .ok (.goto 4, 3) := by decide +kernel
theorem dX4_edge_32 : decode cX4_edge 32 = .ok (.iconst (-1), 1) := by decide +kernel
theorem dX4_edge_33 : decode cX4_edge 33 = .ok (.istore_n 3, 1) := by decide +kernel
theorem dX4_edge_34 : decode cX4_edge 34 = .ok (.iconst 1, 1) := by decide +kernel
theorem dX4_edge_35 : decode cX4_edge 35 = .ok (.istore 4, 2) := by decide +kernel
theorem dX4_edge_37 : decode cX4_edge 37 = .ok (.iload 4, 2) := by decide +kernel
theorem dX4_edge_39 : decode cX4_edge 39 = .ok (.sipush 255, 3) := by decide +kernel
theorem dX4_edge_42 : decode cX4_edge 42 = .ok (.if_icmp .gt 86, 3) := by decide +kernel
theorem dX4_edge_45 : decode cX4_edge 45 = .ok (.aload_n 0, 1) := by decide +kernel
theorem dX4_edge_46 : decode cX4_edge 46 = .ok (.getfield 10, 3) := by decide +kernel
theorem dX4_edge_49 : decode cX4_edge 49 = .ok (.invokevirtual 121, 3) := by decide +kernel
theorem dX4_edge_52 : decode cX4_edge 52 = .ok (.iload_n 1, 1) := by decide +kernel
theorem dX4_edge_53 : decode cX4_edge 53 = .ok (.ifCond .ne 10, 3) := by decide +kernel
theorem dX4_edge_56 : decode cX4_edge 56 = .ok (.iload_n 3, 1) := by decide +kernel
theorem dX4_edge_57 : decode cX4_edge 57 = .ok (.iload 4, 2) := by decide +kernel
theorem dX4_edge_59 : decode cX4_edge 59 = .ok (.imul, 1) := by decide +kernel
theorem dX4_edge_60 : decode cX4_edge 60 = .ok (.goto 4, 3) := by decide +kernel
theorem dX4_edge_63 : decode cX4_edge 63 = .ok (.iconst 0, 1) := by decide +kernel
theorem dX4_edge_64 : decode cX4_edge 64 = .ok (.iadd, 1) := by decide +kernel
theorem dX4_edge_65 : decode cX4_edge 65 = .ok (.istore 5, 2) := by decide +kernel
theorem dX4_edge_67 : decode cX4_edge 67 = .ok (.aload_n 0, 1) := by decide +kernel
theorem dX4_edge_68 : decode cX4_edge 68 = .ok (.getfield 10, 3) := by decide +kernel
theorem dX4_edge_71 : decode cX4_edge 71 = .ok (.invokevirtual 124, 3) := by decide +kernel
theorem dX4_edge_74 : decode cX4_edge 74 = .ok (.iload_n 1, 1) := by decide +kernel
theorem dX4_edge_75 : decode cX4_edge 75 = .ok (.iconst 1, 1) := by decide +kernel
theorem dX4_edge_76 : decode cX4_edge 76 = .ok (.if_icmp .ne 10, 3) := by decide +kernel
theorem dX4_edge_79 : decode cX4_edge 79 = .ok (.iload_n 3, 1) := by decide +kernel
theorem dX4_edge_80 : decode cX4_edge 80 = .ok (.iload 4, 2) := by decide +kernel
theorem dX4_edge_82 : decode cX4_edge 82 = .ok (.imul, 1) := by decide +kernel
theorem dX4_edge_83 : decode cX4_edge 83 = .ok (.goto 4, 3) := by decide +kernel
theorem dX4_edge_86 : decode cX4_edge 86 = .ok (.iconst 0, 1) := by decide +kernel
theorem dX4_edge_87 : decode cX4_edge 87 = .ok (.iadd, 1) := by decide +kernel
theorem dX4_edge_88 : decode cX4_edge 88 = .ok (.istore 6, 2) := by decide +kernel
theorem dX4_edge_90 : decode cX4_edge 90 = .ok (.iload 5, 2) := by decide +kernel
theorem dX4_edge_92 : decode cX4_edge 92 = .ok (.iload 6, 2) := by decide +kernel
theorem dX4_edge_94 : decode cX4_edge 94 = .ok (.invokestatic 108, 3) := by decide +kernel
theorem dX4_edge_97 : decode cX4_edge 97 = .ok (.ifCond .eq 25, 3) := by decide +kernel
theorem dX4_edge_100 : decode cX4_edge 100 = .ok (.aload_n 0, 1) := by decide +kernel
theorem dX4_edge_101 : decode cX4_edge 101 = .ok (.getfield 10, 3) := by decide +kernel
theorem dX4_edge_104 : decode cX4_edge 104 = .ok (.iload 5, 2) := by decide +kernel
theorem dX4_edge_106 : decode cX4_edge 106 = .ok (.iload 6, 2) := by decide +kernel
theorem dX4_edge_108 : decode cX4_edge 108 = .ok (.invokevirtual 112, 3) := by decide +kernel
theorem dX4_edge_111 : decode cX4_edge 111 = .ok (.iconst 0, 1) := by decide +kernel
theorem dX4_edge_112 : decode cX4_edge 112 = .ok (.iconst 0, 1) := by decide +kernel
theorem dX4_edge_113 : decode cX4_edge 113 = .ok (.invokestatic 127, 3) := by decide +kernel
theorem dX4_edge_116 : decode cX4_edge 116 = .ok (.if_icmp .eq 6, 3) := by decide +kernel
theorem dX4_edge_119 : decode cX4_edge 119 = .ok (.iload 4, 2) := by decide +kernel
theorem dX4_edge_121 : decode cX4_edge 121 = .ok (.ireturn, 1) := by decide +kernel
theorem dX4_edge_122 : decode cX4_edge 122 = .ok (.iinc 4 1, 3) := by decide +kernel
theorem dX4_edge_125 : decode cX4_edge 125 = .ok (.goto (-88), 3) := by decide +kernel
theorem dX4_edge_128 : decode cX4_edge 128 = .ok (.bipush (-6), 2) := by decide +kernel
theorem dX4_edge_130 : decode cX4_edge 130 = .ok (.ireturn, 1) := by decide +kernel
theorem dX4_driftsIn_0 : decode cX4_driftsIn 0 = .ok (.iload_n 1, 1) := by decide +kernel
theorem dX4_driftsIn_1 : decode cX4_driftsIn 1 = .ok (.iload_n 2, 1) := by decide +kernel
theorem dX4_driftsIn_2 : decode cX4_driftsIn 2 = .ok (.invokestatic 108, 3) := by decide +kernel
theorem dX4_driftsIn_5 : decode cX4_driftsIn 5 = .ok (.ifCond .ne 6, 3) := by decide +kernel
theorem dX4_driftsIn_8 : decode cX4_driftsIn 8 = .ok (.bipush (-2), 2) := by decide +kernel
theorem dX4_driftsIn_10 : decode cX4_driftsIn 10 = .ok (.ireturn, 1) := by decide +kernel
theorem dX4_driftsIn_11 : decode cX4_driftsIn 11 = .ok (.aload_n 0, 1) := by decide +kernel
theorem dX4_driftsIn_12 : decode cX4_driftsIn 12 = .ok (.getfield 16, 3) := by decide +kernel
theorem dX4_driftsIn_15 : decode cX4_driftsIn 15 = .ok (.aload_n 0, 1) := by decide +kernel
theorem dX4_driftsIn_16 : decode cX4_driftsIn 16 = .ok (.getfield 10, 3) := by decide +kernel
theorem dX4_driftsIn_19 : decode cX4_driftsIn 19 = .ok (.invokevirtual 115, 3) := by decide +kernel
theorem dX4_driftsIn_22 : decode cX4_driftsIn 22 = .ok (.iconst 1, 1) := by decide +kernel
theorem dX4_driftsIn_23 : decode cX4_driftsIn 23 = .ok (.istore_n 3, 1) := by decide +kernel
theorem dX4_driftsIn_24 : decode cX4_driftsIn 24 = .ok (.iload_n 3, 1) := by decide +kernel
theorem dX4_driftsIn_25 : decode cX4_driftsIn 25 = .ok (.sipush 200, 3) := by decide +kernel
theorem dX4_driftsIn_28 : decode cX4_driftsIn 28 = .ok (.if_icmp .gt 32, 3) := by decide +kernel
theorem dX4_driftsIn_31 : decode cX4_driftsIn 31 = .ok (.aload_n 0, 1) := by decide +kernel
theorem dX4_driftsIn_32 : decode cX4_driftsIn 32 = .ok (.getfield 16, 3) := by decide +kernel
theorem dX4_driftsIn_35 : decode cX4_driftsIn 35 = .ok (.iload_n 1, 1) := by decide +kernel
theorem dX4_driftsIn_36 : decode cX4_driftsIn 36 = .ok (.iload_n 2, 1) := by decide +kernel
theorem dX4_driftsIn_37 : decode cX4_driftsIn 37 = .ok (.invokevirtual 130, 3) := by decide +kernel
theorem dX4_driftsIn_40 : decode cX4_driftsIn 40 = .ok (.ifCond .eq 5, 3) := by decide +kernel
theorem dX4_driftsIn_43 : decode cX4_driftsIn 43 = .ok (.iload_n 3, 1) := by decide +kernel
theorem dX4_driftsIn_44 : decode cX4_driftsIn 44 = .ok (.ireturn, 1) := by decide +kernel
theorem dX4_driftsIn_45 : decode cX4_driftsIn 45 = .ok (.aload_n 0, 1) := by decide +kernel
theorem dX4_driftsIn_46 : decode cX4_driftsIn 46 = .ok (.getfield 16, 3) := by decide +kernel
theorem dX4_driftsIn_49 : decode cX4_driftsIn 49 = .ok (.iload_n 1, 1) := by decide +kernel
theorem dX4_driftsIn_50 : decode cX4_driftsIn 50 = .ok (.iload_n 2, 1) := by decide +kernel
theorem dX4_driftsIn_51 : decode cX4_driftsIn 51 = .ok (.invokevirtual 59, 3) := by decide +kernel
theorem dX4_driftsIn_54 : decode cX4_driftsIn 54 = .ok (.iinc 3 1, 3) := by decide +kernel
theorem dX4_driftsIn_57 : decode cX4_driftsIn 57 = .ok (.goto (-33), 3) := by decide +kernel
theorem dX4_driftsIn_60 : decode cX4_driftsIn 60 = .ok (.bipush (-6), 2) := by decide +kernel
theorem dX4_driftsIn_62 : decode cX4_driftsIn 62 = .ok (.ireturn, 1) := by decide +kernel
theorem dX4_put_0 : decode cX4_put 0 = .ok (.aload_n 0, 1) := by decide +kernel
theorem dX4_put_1 : decode cX4_put 1 = .ok (.getfield 22, 3) := by decide +kernel
theorem dX4_put_4 : decode cX4_put 4 = .ok (.lload_n 1, 1) := by decide +kernel
theorem dX4_put_5 : decode cX4_put 5 = .ok (.invokevirtual 133, 3) := by decide +kernel
theorem dX4_put_8 : decode cX4_put 8 = .ok (.ireturn, 1) := by decide +kernel
theorem dX4_wipe_0 : decode cX4_wipe 0 = .ok (.aload_n 0, 1) := by decide +kernel
theorem dX4_wipe_1 : decode cX4_wipe 1 = .ok (.getfield 22, 3) := by decide +kernel
theorem dX4_wipe_4 : decode cX4_wipe 4 = .ok (.invokevirtual 137, 3) := by decide +kernel
theorem dX4_wipe_7 : decode cX4_wipe 7 = .ok (.ireturn, 1) := by decide +kernel
theorem dX4_fault_0 : decode cX4_fault 0 = .ok (.aload_n 0, 1) := by decide +kernel
theorem dX4_fault_1 : decode cX4_fault 1 = .ok (.getfield 22, 3) := by decide +kernel
theorem dX4_fault_4 : decode cX4_fault 4 = .ok (.invokevirtual 140, 3) := by decide +kernel
theorem dX4_fault_7 : decode cX4_fault 7 = .ok (.ireturn, 1) := by decide +kernel
theorem dX4_carryOut_0 : decode cX4_carryOut 0 = .ok (.aload_n 0, 1) := by decide +kernel
theorem dX4_carryOut_1 : decode cX4_carryOut 1 = .ok (.getfield 22, 3) := by decide +kernel
theorem dX4_carryOut_4 : decode cX4_carryOut 4 = .ok (.invokevirtual 140, 3) := by decide +kernel
theorem dX4_carryOut_7 : decode cX4_carryOut 7 = .ok (.bipush (-6), 2) := by decide +kernel
theorem dX4_carryOut_9 : decode cX4_carryOut 9 = .ok (.if_icmp .eq 6, 3) := by decide +kernel
theorem dX4_carryOut_12 : decode cX4_carryOut 12 = .ok (.bipush (-3), 2) := by decide +kernel
theorem dX4_carryOut_14 : decode cX4_carryOut 14 = .ok (.ireturn, 1) := by decide +kernel
theorem dX4_carryOut_15 : decode cX4_carryOut 15 = .ok (.aload_n 0, 1) := by decide +kernel
theorem dX4_carryOut_16 : decode cX4_carryOut 16 = .ok (.getfield 29, 3) := by decide +kernel
theorem dX4_carryOut_19 : decode cX4_carryOut 19 = .ok (.aload_n 0, 1) := by decide +kernel
theorem dX4_carryOut_20 : decode cX4_carryOut 20 = .ok (.getfield 10, 3) := by decide +kernel
theorem dX4_carryOut_23 : decode cX4_carryOut 23 = .ok (.invokevirtual 44, 3) := by decide +kernel
theorem dX4_carryOut_26 : decode cX4_carryOut 26 = .ok (.aload_n 0, 1) := by decide +kernel
theorem dX4_carryOut_27 : decode cX4_carryOut 27 = .ok (.invokevirtual 143, 3) := by decide +kernel
theorem dX4_carryOut_30 : decode cX4_carryOut 30 = .ok (.istore_n 1, 1) := by decide +kernel
theorem dX4_carryOut_31 : decode cX4_carryOut 31 = .ok (.aload_n 0, 1) := by decide +kernel
theorem dX4_carryOut_32 : decode cX4_carryOut 32 = .ok (.getfield 22, 3) := by decide +kernel
theorem dX4_carryOut_35 : decode cX4_carryOut 35 = .ok (.invokevirtual 137, 3) := by decide +kernel
theorem dX4_carryOut_38 : decode cX4_carryOut 38 = .ok (.pop, 1) := by decide +kernel
theorem dX4_carryOut_39 : decode cX4_carryOut 39 = .ok (.iload_n 1, 1) := by decide +kernel
theorem dX4_carryOut_40 : decode cX4_carryOut 40 = .ok (.ireturn, 1) := by decide +kernel
theorem dX4_carryOutOrders_0 : decode cX4_carryOutOrders 0 = .ok (.iconst 0, 1) := by decide +kernel
theorem dX4_carryOutOrders_1 : decode cX4_carryOutOrders 1 = .ok (.istore_n 1, 1) := by decide +kernel
theorem dX4_carryOutOrders_2 : decode cX4_carryOutOrders 2 = .ok (.aload_n 0, 1) := by decide +kernel
theorem dX4_carryOutOrders_3 : decode cX4_carryOutOrders 3 = .ok (.getfield 22, 3) := by decide +kernel
theorem dX4_carryOutOrders_6 : decode cX4_carryOutOrders 6 = .ok (.invokevirtual 146, 3) := by decide +kernel
theorem dX4_carryOutOrders_9 : decode cX4_carryOutOrders 9 = .ok (.iconst 0, 1) := by decide +kernel
theorem dX4_carryOutOrders_10 : decode cX4_carryOutOrders 10 = .ok (.istore_n 2, 1) := by decide +kernel
theorem dX4_carryOutOrders_11 : decode cX4_carryOutOrders 11 = .ok (.iload_n 2, 1) := by decide +kernel
theorem dX4_carryOutOrders_12 : decode cX4_carryOutOrders 12 = .ok (.bipush 80, 2) := by decide +kernel
theorem dX4_carryOutOrders_14 : decode cX4_carryOutOrders 14 = .ok (.if_icmp .ge 70, 3) := by decide +kernel
theorem dX4_carryOutOrders_17 : decode cX4_carryOutOrders 17 = .ok (.aload_n 0, 1) := by decide +kernel
theorem dX4_carryOutOrders_18 : decode cX4_carryOutOrders 18 = .ok (.getfield 22, 3) := by decide +kernel
theorem dX4_carryOutOrders_21 : decode cX4_carryOutOrders 21 = .ok (.invokevirtual 149, 3) := by decide +kernel
theorem dX4_carryOutOrders_24 : decode cX4_carryOutOrders 24 = .ok (.ifCond .eq 60, 3) := by decide +kernel
theorem dX4_carryOutOrders_27 : decode cX4_carryOutOrders 27 = .ok (.aload_n 0, 1) := by decide +kernel
theorem dX4_carryOutOrders_28 : decode cX4_carryOutOrders 28 = .ok (.getfield 22, 3) := by decide +kernel
theorem dX4_carryOutOrders_31 : decode cX4_carryOutOrders 31 = .ok (.getfield 153, 3) := by decide +kernel
theorem dX4_carryOutOrders_34 : decode cX4_carryOutOrders 34 = .ok (.bipush 115, 2) := by decide +kernel
theorem dX4_carryOutOrders_36 : decode cX4_carryOutOrders 36 = .ok (.if_icmp .ne 10, 3) := by decide +kernel
theorem dX4_carryOutOrders_39 : decode cX4_carryOutOrders 39 = .ok (.aload_n 0, 1) := by decide +kernel
theorem dX4_carryOutOrders_40 : decode cX4_carryOutOrders 40 = .ok (.invokevirtual 157, 3) := by decide +kernel
theorem dX4_carryOutOrders_43 : decode cX4_carryOutOrders 43 = .ok (.goto 7, 3) := by decide +kernel
theorem dX4_carryOutOrders_46 : decode cX4_carryOutOrders 46 = .ok (.aload_n 0, 1) := by decide +kernel
theorem dX4_carryOutOrders_47 : decode cX4_carryOutOrders 47 = .ok (.invokevirtual 160, 3) := by decide +kernel
theorem dX4_carryOutOrders_50 : decode cX4_carryOutOrders 50 = .ok (.istore_n 3, 1) := by decide +kernel
theorem dX4_carryOutOrders_51 : decode cX4_carryOutOrders 51 = .ok (.iload_n 1, 1) := by decide +kernel
theorem dX4_carryOutOrders_52 : decode cX4_carryOutOrders 52 = .ok (.iload_n 3, 1) := by decide +kernel
theorem dX4_carryOutOrders_53 : decode cX4_carryOutOrders 53 = .ok (.iadd, 1) := by decide +kernel
theorem dX4_carryOutOrders_54 : decode cX4_carryOutOrders 54 = .ok (.istore_n 1, 1) := by decide +kernel
theorem dX4_carryOutOrders_55 : decode cX4_carryOutOrders 55 = .ok (.iload_n 3, 1) := by decide +kernel
theorem dX4_carryOutOrders_56 : decode cX4_carryOutOrders 56 = .ok (.aload_n 0, 1) := by decide +kernel
theorem dX4_carryOutOrders_57 : decode cX4_carryOutOrders 57 = .ok (.getfield 22, 3) := by decide +kernel
theorem dX4_carryOutOrders_60 : decode cX4_carryOutOrders 60 = .ok (.getfield 163, 3) := by decide +kernel
theorem dX4_carryOutOrders_63 : decode cX4_carryOutOrders 63 = .ok (.if_icmp .ge 5, 3) := by decide +kernel
theorem dX4_carryOutOrders_66 : decode cX4_carryOutOrders 66 = .ok (.iload_n 1, 1) := by decide +kernel
theorem dX4_carryOutOrders_67 : decode cX4_carryOutOrders 67 = .ok (.ireturn, 1) := by decide +kernel
theorem dX4_carryOutOrders_68 : decode cX4_carryOutOrders 68 = .ok (.aload_n 0, 1) := by decide +kernel
theorem dX4_carryOutOrders_69 : decode cX4_carryOutOrders 69 = .ok (.getfield 22, 3) := by decide +kernel
theorem dX4_carryOutOrders_72 : decode cX4_carryOutOrders 72 = .ok (.bipush 59, 2) := by decide +kernel
theorem dX4_carryOutOrders_74 : decode cX4_carryOutOrders 74 = .ok (.invokevirtual 166, 3) := by decide +kernel
theorem dX4_carryOutOrders_77 : decode cX4_carryOutOrders 77 = .ok (.pop, 1) := by decide +kernel
theorem dX4_carryOutOrders_78 : decode cX4_carryOutOrders 78 = .ok (.iinc 2 1, 3) := by decide +kernel
theorem dX4_carryOutOrders_81 : decode cX4_carryOutOrders 81 = .ok (.goto (-70), 3) := by decide +kernel
theorem dX4_carryOutOrders_84 : decode cX4_carryOutOrders 84 = .ok (.iload_n 1, 1) := by decide +kernel
theorem dX4_carryOutOrders_85 : decode cX4_carryOutOrders 85 = .ok (.ireturn, 1) := by decide +kernel
theorem dX4_takeFromPad_0 : decode cX4_takeFromPad 0 = .ok (.iconst 0, 1) := by decide +kernel
theorem dX4_takeFromPad_1 : decode cX4_takeFromPad 1 = .ok (.istore_n 1, 1) := by decide +kernel
theorem dX4_takeFromPad_2 : decode cX4_takeFromPad 2 = .ok (.iload_n 1, 1) := by decide +kernel
theorem dX4_takeFromPad_3 : decode cX4_takeFromPad 3 = .ok (.aload_n 0, 1) := by decide +kernel
theorem dX4_takeFromPad_4 : decode cX4_takeFromPad 4 = .ok (.getfield 22, 3) := by decide +kernel
theorem dX4_takeFromPad_7 : decode cX4_takeFromPad 7 = .ok (.getfield 163, 3) := by decide +kernel
theorem dX4_takeFromPad_10 : decode cX4_takeFromPad 10 = .ok (.if_icmp .ge 55, 3) := by decide +kernel
theorem dX4_takeFromPad_13 : decode cX4_takeFromPad 13 = .ok (.aload_n 0, 1) := by decide +kernel
theorem dX4_takeFromPad_14 : decode cX4_takeFromPad 14 = .ok (.getfield 10, 3) := by decide +kernel
theorem dX4_takeFromPad_17 : decode cX4_takeFromPad 17 = .ok (.aload_n 0, 1) := by decide +kernel
theorem dX4_takeFromPad_18 : decode cX4_takeFromPad 18 = .ok (.getfield 22, 3) := by decide +kernel
theorem dX4_takeFromPad_21 : decode cX4_takeFromPad 21 = .ok (.getfield 170, 3) := by decide +kernel
theorem dX4_takeFromPad_24 : decode cX4_takeFromPad 24 = .ok (.aload_n 0, 1) := by decide +kernel
theorem dX4_takeFromPad_25 : decode cX4_takeFromPad 25 = .ok (.getfield 22, 3) := by decide +kernel
theorem dX4_takeFromPad_28 : decode cX4_takeFromPad 28 = .ok (.getfield 173, 3) := by decide +kernel
theorem dX4_takeFromPad_31 : decode cX4_takeFromPad 31 = .ok (.iconst 1, 1) := by decide +kernel
theorem dX4_takeFromPad_32 : decode cX4_takeFromPad 32 = .ok (.invokevirtual 56, 3) := by decide +kernel
theorem dX4_takeFromPad_35 : decode cX4_takeFromPad 35 = .ok (.ifCond .ne 30, 3) := by decide +kernel
theorem dX4_takeFromPad_38 : decode cX4_takeFromPad 38 = .ok (.aload_n 0, 1) := by decide +kernel
theorem dX4_takeFromPad_39 : decode cX4_takeFromPad 39 = .ok (.getfield 10, 3) := by decide +kernel
theorem dX4_takeFromPad_42 : decode cX4_takeFromPad 42 = .ok (.aload_n 0, 1) := by decide +kernel
theorem dX4_takeFromPad_43 : decode cX4_takeFromPad 43 = .ok (.getfield 22, 3) := by decide +kernel
theorem dX4_takeFromPad_46 : decode cX4_takeFromPad 46 = .ok (.getfield 170, 3) := by decide +kernel
theorem dX4_takeFromPad_49 : decode cX4_takeFromPad 49 = .ok (.aload_n 0, 1) := by decide +kernel
theorem dX4_takeFromPad_50 : decode cX4_takeFromPad 50 = .ok (.getfield 22, 3) := by decide +kernel
theorem dX4_takeFromPad_53 : decode cX4_takeFromPad 53 = .ok (.getfield 173, 3) := by decide +kernel
theorem dX4_takeFromPad_56 : decode cX4_takeFromPad 56 = .ok (.invokevirtual 59, 3) := by decide +kernel
theorem dX4_takeFromPad_59 : decode cX4_takeFromPad 59 = .ok (.iinc 1 1, 3) := by decide +kernel
theorem dX4_takeFromPad_62 : decode cX4_takeFromPad 62 = .ok (.goto (-60), 3) := by decide +kernel
theorem dX4_takeFromPad_65 : decode cX4_takeFromPad 65 = .ok (.iload_n 1, 1) := by decide +kernel
theorem dX4_takeFromPad_66 : decode cX4_takeFromPad 66 = .ok (.ireturn, 1) := by decide +kernel
theorem dX4_moveButtonFromPad_0 : decode cX4_moveButtonFromPad 0 = .ok (.aload_n 0, 1) := by decide +kernel
theorem dX4_moveButtonFromPad_1 : decode cX4_moveButtonFromPad 1 = .ok (.getfield 22, 3) := by decide +kernel
theorem dX4_moveButtonFromPad_4 : decode cX4_moveButtonFromPad 4 = .ok (.getfield 170, 3) := by decide +kernel
theorem dX4_moveButtonFromPad_7 : decode cX4_moveButtonFromPad 7 = .ok (.istore_n 1, 1) := by decide +kernel
theorem dX4_moveButtonFromPad_8 : decode cX4_moveButtonFromPad 8 = .ok (.aload_n 0, 1) := by decide +kernel
theorem dX4_moveButtonFromPad_9 : decode cX4_moveButtonFromPad 9 = .ok (.getfield 22, 3) := by decide +kernel
theorem dX4_moveButtonFromPad_12 : decode cX4_moveButtonFromPad 12 = .ok (.getfield 153, 3) := by decide +kernel
theorem dX4_moveButtonFromPad_15 : decode cX4_moveButtonFromPad 15 = .ok (.bipush 98, 2) := by decide +kernel
theorem dX4_moveButtonFromPad_17 : decode cX4_moveButtonFromPad 17 = .ok (.if_icmp .ne 7, 3) := by decide +kernel
theorem dX4_moveButtonFromPad_20 : decode cX4_moveButtonFromPad 20 = .ok (.iconst 1, 1) := by decide +kernel
theorem dX4_moveButtonFromPad_21 : decode cX4_moveButtonFromPad 21 = .ok (.goto 4, 3) := by decide +kernel
theorem dX4_moveButtonFromPad_24 : decode cX4_moveButtonFromPad 24 = .ok (.iconst 0, 1) := by decide +kernel
theorem dX4_moveButtonFromPad_25 : decode cX4_moveButtonFromPad 25 = .ok (.istore_n 2, 1) := by decide +kernel
theorem dX4_moveButtonFromPad_26 : decode cX4_moveButtonFromPad 26 = .ok (.iload_n 2, 1) := by decide +kernel
theorem dX4_moveButtonFromPad_27 : decode cX4_moveButtonFromPad 27 = .ok (.ifCond .eq 14, 3) := by decide +kernel
theorem dX4_moveButtonFromPad_30 : decode cX4_moveButtonFromPad 30 = .ok (.aload_n 0, 1) := by decide +kernel
theorem dX4_moveButtonFromPad_31 : decode cX4_moveButtonFromPad 31 = .ok (.getfield 10, 3) := by decide +kernel
theorem dX4_moveButtonFromPad_34 : decode cX4_moveButtonFromPad 34 = .ok (.iload_n 1, 1) := by decide +kernel
theorem dX4_moveButtonFromPad_35 : decode cX4_moveButtonFromPad 35 = .ok (.invokevirtual 67, 3) := by decide +kernel
theorem dX4_moveButtonFromPad_38 : decode cX4_moveButtonFromPad 38 = .ok (.goto 11, 3) := by decide +kernel
theorem dX4_moveButtonFromPad_41 : decode cX4_moveButtonFromPad 41 = .ok (.aload_n 0, 1) := by decide +kernel
theorem dX4_moveButtonFromPad_42 : decode cX4_moveButtonFromPad 42 = .ok (.getfield 10, 3) := by decide +kernel
theorem dX4_moveButtonFromPad_45 : decode cX4_moveButtonFromPad 45 = .ok (.iload_n 1, 1) := by decide +kernel
theorem dX4_moveButtonFromPad_46 : decode cX4_moveButtonFromPad 46 = .ok (.invokevirtual 74, 3) := by decide +kernel
theorem dX4_moveButtonFromPad_49 : decode cX4_moveButtonFromPad 49 = .ok (.istore_n 3, 1) := by decide +kernel
theorem dX4_moveButtonFromPad_50 : decode cX4_moveButtonFromPad 50 = .ok (.iload_n 3, 1) := by decide +kernel
theorem dX4_moveButtonFromPad_51 : decode cX4_moveButtonFromPad 51 = .ok (.ifCond .eq 5, 3) := by decide +kernel
theorem dX4_moveButtonFromPad_54 : decode cX4_moveButtonFromPad 54 = .ok (.iconst 0, 1) := by decide +kernel
theorem dX4_moveButtonFromPad_55 : decode cX4_moveButtonFromPad 55 = .ok (.ireturn, 1) := by decide +kernel
theorem dX4_moveButtonFromPad_56 : decode cX4_moveButtonFromPad 56 = .ok (.iload_n 2, 1) := by decide +kernel
theorem dX4_moveButtonFromPad_57 : decode cX4_moveButtonFromPad 57 = .ok (.ifCond .eq 15, 3) := by decide +kernel
theorem dX4_moveButtonFromPad_60 : decode cX4_moveButtonFromPad 60 = .ok (.aload_n 0, 1) := by decide +kernel
theorem dX4_moveButtonFromPad_61 : decode cX4_moveButtonFromPad 61 = .ok (.getfield 10, 3) := by decide +kernel
theorem dX4_moveButtonFromPad_64 : decode cX4_moveButtonFromPad 64 = .ok (.iload_n 1, 1) := by decide +kernel
theorem dX4_moveButtonFromPad_65 : decode cX4_moveButtonFromPad 65 = .ok (.invokevirtual 71, 3) := by decide +kernel
theorem dX4_moveButtonFromPad_68 : decode cX4_moveButtonFromPad 68 = .ok (.pop, 1) := by decide +kernel
theorem dX4_moveButtonFromPad_69 : decode cX4_moveButtonFromPad 69 = .ok (.goto 12, 3) := by decide +kernel
theorem dX4_moveButtonFromPad_72 : decode cX4_moveButtonFromPad 72 = .ok (.aload_n 0, 1) := by decide +kernel
theorem dX4_moveButtonFromPad_73 : decode cX4_moveButtonFromPad 73 = .ok (.getfield 10, 3) := by decide +kernel
theorem dX4_moveButtonFromPad_76 : decode cX4_moveButtonFromPad 76 = .ok (.iload_n 1, 1) := by decide +kernel
theorem dX4_moveButtonFromPad_77 : decode cX4_moveButtonFromPad 77 = .ok (.invokevirtual 77, 3) := by decide +kernel
theorem dX4_moveButtonFromPad_80 : decode cX4_moveButtonFromPad 80 = .ok (.pop, 1) := by decide +kernel
theorem dX4_moveButtonFromPad_81 : decode cX4_moveButtonFromPad 81 = .ok (.iconst 1, 1) := by decide +kernel
theorem dX4_moveButtonFromPad_82 : decode cX4_moveButtonFromPad 82 = .ok (.ireturn, 1) := by decide +kernel
theorem dX4_undo_0 : decode cX4_undo 0 = .ok (.aload_n 0, 1) := by decide +kernel
theorem dX4_undo_1 : decode cX4_undo 1 = .ok (.getfield 29, 3) := by decide +kernel
theorem dX4_undo_4 : decode cX4_undo 4 = .ok (.aload_n 0, 1) := by decide +kernel
theorem dX4_undo_5 : decode cX4_undo 5 = .ok (.getfield 10, 3) := by decide +kernel
theorem dX4_undo_8 : decode cX4_undo 8 = .ok (.invokevirtual 176, 3) := by decide +kernel
theorem dX4_undo_11 : decode cX4_undo 11 = .ok (.ireturn, 1) := by decide +kernel
theorem dX4_save_0 : decode cX4_save 0 = .ok (.iload_n 1, 1) := by decide +kernel
theorem dX4_save_1 : decode cX4_save 1 = .ok (.ifCond .lt 12, 3) := by decide +kernel
theorem dX4_save_4 : decode cX4_save 4 = .ok (.iload_n 1, 1) := by decide +kernel
theorem dX4_save_5 : decode cX4_save 5 = .ok (.aload_n 0, 1) := by decide +kernel
theorem dX4_save_6 : decode cX4_save 6 = .ok (.getfield 33, 3) := by decide +kernel
theorem dX4_save_9 : decode cX4_save 9 = .ok (.arraylength, 1) := by decide +kernel
theorem dX4_save_10 : decode cX4_save 10 = .ok (.if_icmp .lt 6, 3) := by decide +kernel
theorem dX4_save_13 : decode cX4_save 13 = .ok (.bipush (-2), 2) := by decide +kernel
theorem dX4_save_15 : decode cX4_save 15 = .ok (.ireturn, 1) := by decide +kernel
theorem dX4_save_16 : decode cX4_save 16 = .ok (.aload_n 0, 1) := by decide +kernel
theorem dX4_save_17 : decode cX4_save 17 = .ok (.getfield 33, 3) := by decide +kernel
theorem dX4_save_20 : decode cX4_save 20 = .ok (.iload_n 1, 1) := by decide +kernel
theorem dX4_save_21 : decode cX4_save 21 = .ok (.aaload, 1) := by decide +kernel
theorem dX4_save_22 : decode cX4_save 22 = .ok (.astore_n 2, 1) := by decide +kernel
theorem dX4_save_23 : decode cX4_save 23 = .ok (.aload_n 2, 1) := by decide +kernel
theorem dX4_save_24 : decode cX4_save 24 = .ok (.ifnonnull 18, 3) := by decide +kernel
theorem dX4_save_27 : decode cX4_save 27 = .ok (.new 7, 3) := by decide +kernel
theorem dX4_save_30 : decode cX4_save 30 = .ok (.dup, 1) := by decide +kernel
theorem dX4_save_31 : decode cX4_save 31 = .ok (.invokespecial 9, 3) := by decide +kernel
theorem dX4_save_34 : decode cX4_save 34 = .ok (.astore_n 2, 1) := by decide +kernel
theorem dX4_save_35 : decode cX4_save 35 = .ok (.aload_n 0, 1) := by decide +kernel
theorem dX4_save_36 : decode cX4_save 36 = .ok (.getfield 33, 3) := by decide +kernel
theorem dX4_save_39 : decode cX4_save 39 = .ok (.iload_n 1, 1) := by decide +kernel
theorem dX4_save_40 : decode cX4_save 40 = .ok (.aload_n 2, 1) := by decide +kernel
theorem dX4_save_41 : decode cX4_save 41 = .ok (.aastore, 1) := by decide +kernel
theorem dX4_save_42 : decode cX4_save 42 = .ok (.aload_n 2, 1) := by decide +kernel
theorem dX4_save_43 : decode cX4_save 43 = .ok (.aload_n 0, 1) := by decide +kernel
theorem dX4_save_44 : decode cX4_save 44 = .ok (.getfield 10, 3) := by decide +kernel
theorem dX4_save_47 : decode cX4_save 47 = .ok (.invokevirtual 115, 3) := by decide +kernel
theorem dX4_save_50 : decode cX4_save 50 = .ok (.aload_n 0, 1) := by decide +kernel
theorem dX4_save_51 : decode cX4_save 51 = .ok (.getfield 10, 3) := by decide +kernel
theorem dX4_save_54 : decode cX4_save 54 = .ok (.getfield 180, 3) := by decide +kernel
theorem dX4_save_57 : decode cX4_save 57 = .ok (.ireturn, 1) := by decide +kernel
theorem dX4_restore_0 : decode cX4_restore 0 = .ok (.iload_n 1, 1) := by decide +kernel
theorem dX4_restore_1 : decode cX4_restore 1 = .ok (.ifCond .lt 12, 3) := by decide +kernel
theorem dX4_restore_4 : decode cX4_restore 4 = .ok (.iload_n 1, 1) := by decide +kernel
theorem dX4_restore_5 : decode cX4_restore 5 = .ok (.aload_n 0, 1) := by decide +kernel
theorem dX4_restore_6 : decode cX4_restore 6 = .ok (.getfield 33, 3) := by decide +kernel
theorem dX4_restore_9 : decode cX4_restore 9 = .ok (.arraylength, 1) := by decide +kernel
theorem dX4_restore_10 : decode cX4_restore 10 = .ok (.if_icmp .lt 6, 3) := by decide +kernel
theorem dX4_restore_13 : decode cX4_restore 13 = .ok (.bipush (-2), 2) := by decide +kernel
theorem dX4_restore_15 : decode cX4_restore 15 = .ok (.ireturn, 1) := by decide +kernel
theorem dX4_restore_16 : decode cX4_restore 16 = .ok (.aload_n 0, 1) := by decide +kernel
theorem dX4_restore_17 : decode cX4_restore 17 = .ok (.getfield 33, 3) := by decide +kernel
theorem dX4_restore_20 : decode cX4_restore 20 = .ok (.iload_n 1, 1) := by decide +kernel
theorem dX4_restore_21 : decode cX4_restore 21 = .ok (.aaload, 1) := by decide +kernel
theorem dX4_restore_22 : decode cX4_restore 22 = .ok (.astore_n 2, 1) := by decide +kernel
theorem dX4_restore_23 : decode cX4_restore 23 = .ok (.aload_n 2, 1) := by decide +kernel
theorem dX4_restore_24 : decode cX4_restore 24 = .ok (.ifnonnull 6, 3) := by decide +kernel
theorem dX4_restore_27 : decode cX4_restore 27 = .ok (.bipush (-5), 2) := by decide +kernel
theorem dX4_restore_29 : decode cX4_restore 29 = .ok (.ireturn, 1) := by decide +kernel
theorem dX4_restore_30 : decode cX4_restore 30 = .ok (.aload_n 0, 1) := by decide +kernel
theorem dX4_restore_31 : decode cX4_restore 31 = .ok (.getfield 29, 3) := by decide +kernel
theorem dX4_restore_34 : decode cX4_restore 34 = .ok (.aload_n 0, 1) := by decide +kernel
theorem dX4_restore_35 : decode cX4_restore 35 = .ok (.getfield 10, 3) := by decide +kernel
theorem dX4_restore_38 : decode cX4_restore 38 = .ok (.invokevirtual 44, 3) := by decide +kernel
theorem dX4_restore_41 : decode cX4_restore 41 = .ok (.aload_n 0, 1) := by decide +kernel
theorem dX4_restore_42 : decode cX4_restore 42 = .ok (.getfield 10, 3) := by decide +kernel
theorem dX4_restore_45 : decode cX4_restore 45 = .ok (.aload_n 2, 1) := by decide +kernel
theorem dX4_restore_46 : decode cX4_restore 46 = .ok (.invokevirtual 115, 3) := by decide +kernel
theorem dX4_restore_49 : decode cX4_restore 49 = .ok (.aload_n 0, 1) := by decide +kernel
theorem dX4_restore_50 : decode cX4_restore 50 = .ok (.getfield 10, 3) := by decide +kernel
theorem dX4_restore_53 : decode cX4_restore 53 = .ok (.getfield 180, 3) := by decide +kernel
theorem dX4_restore_56 : decode cX4_restore 56 = .ok (.ireturn, 1) := by decide +kernel
theorem dX4_isSample_0 : decode cX4_isSample 0 = .ok (.iload_n 0, 1) := by decide +kernel
theorem dX4_isSample_1 : decode cX4_isSample 1 = .ok (.ifCond .lt 25, 3) := by decide +kernel
theorem dX4_isSample_4 : decode cX4_isSample 4 = .ok (.iload_n 0, 1) := by decide +kernel
theorem dX4_isSample_5 : decode cX4_isSample 5 = .ok (.sipush 255, 3) := by decide +kernel
theorem dX4_isSample_8 : decode cX4_isSample 8 = .ok (.if_icmp .gt 18, 3) := by decide +kernel
theorem dX4_isSample_11 : decode cX4_isSample 11 = .ok (.iload_n 1, 1) := by decide +kernel
theorem dX4_isSample_12 : decode cX4_isSample 12 = .ok (.ifCond .lt 14, 3) := by decide +kernel
theorem dX4_isSample_15 : decode cX4_isSample 15 = .ok (.iload_n 1, 1) := by decide +kernel
theorem dX4_isSample_16 : decode cX4_isSample 16 = .ok (.sipush 255, 3) := by decide +kernel
theorem dX4_isSample_19 : decode cX4_isSample 19 = .ok (.if_icmp .gt 7, 3) := by decide +kernel
theorem dX4_isSample_22 : decode cX4_isSample 22 = .ok (.iconst 1, 1) := by decide +kernel
theorem dX4_isSample_23 : decode cX4_isSample 23 = .ok (.goto 4, 3) := by decide +kernel
theorem dX4_isSample_26 : decode cX4_isSample 26 = .ok (.iconst 0, 1) := by decide +kernel
theorem dX4_isSample_27 : decode cX4_isSample 27 = .ok (.ireturn, 1) := by decide +kernel
theorem dX4_packed_0 : decode cX4_packed 0 = .ok (.sipush 1000, 3) := by decide +kernel
theorem dX4_packed_3 : decode cX4_packed 3 = .ok (.iload_n 0, 1) := by decide +kernel
theorem dX4_packed_4 : decode cX4_packed 4 = .ok (.bipush 100, 2) := by decide +kernel
theorem dX4_packed_6 : decode cX4_packed 6 = .ok (.iadd, 1) := by decide +kernel
theorem dX4_packed_7 : decode cX4_packed 7 = .ok (.imul, 1) := by decide +kernel
theorem dX4_packed_8 : decode cX4_packed 8 = .ok (.iload_n 1, 1) := by decide +kernel
theorem dX4_packed_9 : decode cX4_packed 9 = .ok (.iadd, 1) := by decide +kernel
theorem dX4_packed_10 : decode cX4_packed 10 = .ok (.bipush 100, 2) := by decide +kernel
theorem dX4_packed_12 : decode cX4_packed 12 = .ok (.iadd, 1) := by decide +kernel
theorem dX4_packed_13 : decode cX4_packed 13 = .ok (.ireturn, 1) := by decide +kernel
theorem dX4_quotient_0 : decode cX4_quotient 0 = .ok (.iload_n 1, 1) := by decide +kernel
theorem dX4_quotient_1 : decode cX4_quotient 1 = .ok (.ifCond .ne 7, 3) := by decide +kernel
theorem dX4_quotient_4 : decode cX4_quotient 4 = .ok (.iconst 0, 1) := by decide +kernel
theorem dX4_quotient_5 : decode cX4_quotient 5 = .ok (.goto 6, 3) := by decide +kernel
theorem dX4_quotient_8 : decode cX4_quotient 8 = .ok (.iload_n 0, 1) := by decide +kernel
theorem dX4_quotient_9 : decode cX4_quotient 9 = .ok (.iload_n 1, 1) := by decide +kernel
theorem dX4_quotient_10 : decode cX4_quotient 10 = .ok (.idiv, 1) := by decide +kernel
theorem dX4_quotient_11 : decode cX4_quotient 11 = .ok (.ireturn, 1) := by decide +kernel
theorem dL_law_0 : decode cL_law 0 = .ok (.new 7, 3) := by decide +kernel
theorem dL_law_3 : decode cL_law 3 = .ok (.dup, 1) := by decide +kernel
theorem dL_law_4 : decode cL_law 4 = .ok (.invokespecial 9, 3) := by decide +kernel
theorem dL_law_7 : decode cL_law 7 = .ok (.astore_n 1, 1) := by decide +kernel
theorem dL_law_8 : decode cL_law 8 = .ok (.new 10, 3) := by decide +kernel
theorem dL_law_11 : decode cL_law 11 = .ok (.dup, 1) := by decide +kernel
theorem dL_law_12 : decode cL_law 12 = .ok (.invokespecial 12, 3) := by decide +kernel
theorem dL_law_15 : decode cL_law 15 = .ok (.astore_n 2, 1) := by decide +kernel
theorem dL_law_16 : decode cL_law 16 = .ok (.iconst 0, 1) := by decide +kernel
theorem dL_law_17 : decode cL_law 17 = .ok (.istore_n 3, 1) := by decide +kernel
theorem dL_law_18 : decode cL_law 18 = .ok (.iload_n 3, 1) := by decide +kernel
theorem dL_law_19 : decode cL_law 19 = .ok (.aload_n 0, 1) := by decide +kernel
theorem dL_law_20 : decode cL_law 20 = .ok (.arraylength, 1) := by decide +kernel
theorem dL_law_21 : decode cL_law 21 = .ok (.iconst 4, 1) := by decide +kernel
theorem dL_law_22 : decode cL_law 22 = .ok (.isub, 1) := by decide +kernel
theorem dL_law_23 : decode cL_law 23 = .ok (.if_icmp .gt 651, 3) := by decide +kernel
theorem dL_law_26 : decode cL_law 26 = .ok (.aload_n 0, 1) := by decide +kernel
theorem dL_law_27 : decode cL_law 27 = .ok (.iload_n 3, 1) := by decide +kernel
theorem dL_law_28 : decode cL_law 28 = .ok (.iaload, 1) := by decide +kernel
theorem dL_law_29 : decode cL_law 29 = .ok (.bipush 31, 2) := by decide +kernel
theorem dL_law_31 : decode cL_law 31 = .ok (.iand, 1) := by decide +kernel
theorem dL_law_32 : decode cL_law 32 = .ok (.tableswitch 636 0 19 #[96, 129, 162, 205, 228, 251, 264, 297, 330, 353, 386, 419, 452, 485, 538, 551, 564, 577, 590, 613], 96) := by decide +kernel
theorem dL_law_128 : decode cL_law 128 = .ok (.aload_n 1, 1) := by decide +kernel
theorem dL_law_129 : decode cL_law 129 = .ok (.aload_n 0, 1) := by decide +kernel
theorem dL_law_130 : decode cL_law 130 = .ok (.iload_n 3, 1) := by decide +kernel
theorem dL_law_131 : decode cL_law 131 = .ok (.iconst 1, 1) := by decide +kernel
theorem dL_law_132 : decode cL_law 132 = .ok (.iadd, 1) := by decide +kernel
theorem dL_law_133 : decode cL_law 133 = .ok (.iaload, 1) := by decide +kernel
theorem dL_law_134 : decode cL_law 134 = .ok (.aload_n 0, 1) := by decide +kernel
theorem dL_law_135 : decode cL_law 135 = .ok (.iload_n 3, 1) := by decide +kernel
theorem dL_law_136 : decode cL_law 136 = .ok (.iconst 2, 1) := by decide +kernel
theorem dL_law_137 : decode cL_law 137 = .ok (.iadd, 1) := by decide +kernel
theorem dL_law_138 : decode cL_law 138 = .ok (.iaload, 1) := by decide +kernel
theorem dL_law_139 : decode cL_law 139 = .ok (.invokevirtual 13, 3) := by decide +kernel
theorem dL_law_142 : decode cL_law 142 = .ok (.aload_n 2, 1) := by decide +kernel
theorem dL_law_143 : decode cL_law 143 = .ok (.aload_n 0, 1) := by decide +kernel
theorem dL_law_144 : decode cL_law 144 = .ok (.iload_n 3, 1) := by decide +kernel
theorem dL_law_145 : decode cL_law 145 = .ok (.iconst 1, 1) := by decide +kernel
theorem dL_law_146 : decode cL_law 146 = .ok (.iadd, 1) := by decide +kernel
theorem dL_law_147 : decode cL_law 147 = .ok (.iaload, 1) := by decide +kernel
theorem dL_law_148 : decode cL_law 148 = .ok (.aload_n 0, 1) := by decide +kernel
theorem dL_law_149 : decode cL_law 149 = .ok (.iload_n 3, 1) := by decide +kernel
theorem dL_law_150 : decode cL_law 150 = .ok (.iconst 2, 1) := by decide +kernel
theorem dL_law_151 : decode cL_law 151 = .ok (.iadd, 1) := by decide +kernel
theorem dL_law_152 : decode cL_law 152 = .ok (.iaload, 1) := by decide +kernel
theorem dL_law_153 : decode cL_law 153 = .ok (.invokevirtual 17, 3) := by decide +kernel
theorem dL_law_156 : decode cL_law 156 = .ok (.if_icmp .eq 512, 3) := by decide +kernel
theorem dL_law_159 : decode cL_law 159 = .ok (.iconst 0, 1) := by decide +kernel
theorem dL_law_160 : decode cL_law 160 = .ok (.ireturn, 1) := by decide +kernel
theorem dL_law_161 : decode cL_law 161 = .ok (.aload_n 1, 1) := by decide +kernel
theorem dL_law_162 : decode cL_law 162 = .ok (.aload_n 0, 1) := by decide +kernel
theorem dL_law_163 : decode cL_law 163 = .ok (.iload_n 3, 1) := by decide +kernel
theorem dL_law_164 : decode cL_law 164 = .ok (.iconst 1, 1) := by decide +kernel
theorem dL_law_165 : decode cL_law 165 = .ok (.iadd, 1) := by decide +kernel
theorem dL_law_166 : decode cL_law 166 = .ok (.iaload, 1) := by decide +kernel
theorem dL_law_167 : decode cL_law 167 = .ok (.aload_n 0, 1) := by decide +kernel
theorem dL_law_168 : decode cL_law 168 = .ok (.iload_n 3, 1) := by decide +kernel
theorem dL_law_169 : decode cL_law 169 = .ok (.iconst 2, 1) := by decide +kernel
theorem dL_law_170 : decode cL_law 170 = .ok (.iadd, 1) := by decide +kernel
theorem dL_law_171 : decode cL_law 171 = .ok (.iaload, 1) := by decide +kernel
theorem dL_law_172 : decode cL_law 172 = .ok (.invokevirtual 18, 3) := by decide +kernel
theorem dL_law_175 : decode cL_law 175 = .ok (.aload_n 2, 1) := by decide +kernel
theorem dL_law_176 : decode cL_law 176 = .ok (.aload_n 0, 1) := by decide +kernel
theorem dL_law_177 : decode cL_law 177 = .ok (.iload_n 3, 1) := by decide +kernel
theorem dL_law_178 : decode cL_law 178 = .ok (.iconst 1, 1) := by decide +kernel
theorem dL_law_179 : decode cL_law 179 = .ok (.iadd, 1) := by decide +kernel
theorem dL_law_180 : decode cL_law 180 = .ok (.iaload, 1) := by decide +kernel
theorem dL_law_181 : decode cL_law 181 = .ok (.aload_n 0, 1) := by decide +kernel
theorem dL_law_182 : decode cL_law 182 = .ok (.iload_n 3, 1) := by decide +kernel
theorem dL_law_183 : decode cL_law 183 = .ok (.iconst 2, 1) := by decide +kernel
theorem dL_law_184 : decode cL_law 184 = .ok (.iadd, 1) := by decide +kernel
theorem dL_law_185 : decode cL_law 185 = .ok (.iaload, 1) := by decide +kernel
theorem dL_law_186 : decode cL_law 186 = .ok (.invokevirtual 21, 3) := by decide +kernel
theorem dL_law_189 : decode cL_law 189 = .ok (.if_icmp .eq 479, 3) := by decide +kernel
theorem dL_law_192 : decode cL_law 192 = .ok (.iconst 0, 1) := by decide +kernel
theorem dL_law_193 : decode cL_law 193 = .ok (.ireturn, 1) := by decide +kernel
theorem dL_law_194 : decode cL_law 194 = .ok (.aload_n 1, 1) := by decide +kernel
theorem dL_law_195 : decode cL_law 195 = .ok (.aload_n 0, 1) := by decide +kernel
theorem dL_law_196 : decode cL_law 196 = .ok (.iload_n 3, 1) := by decide +kernel
theorem dL_law_197 : decode cL_law 197 = .ok (.iconst 1, 1) := by decide +kernel
theorem dL_law_198 : decode cL_law 198 = .ok (.iadd, 1) := by decide +kernel
theorem dL_law_199 : decode cL_law 199 = .ok (.iaload, 1) := by decide +kernel
theorem dL_law_200 : decode cL_law 200 = .ok (.aload_n 0, 1) := by decide +kernel
theorem dL_law_201 : decode cL_law 201 = .ok (.iload_n 3, 1) := by decide +kernel
theorem dL_law_202 : decode cL_law 202 = .ok (.iconst 2, 1) := by decide +kernel
theorem dL_law_203 : decode cL_law 203 = .ok (.iadd, 1) := by decide +kernel
theorem dL_law_204 : decode cL_law 204 = .ok (.iaload, 1) := by decide +kernel
theorem dL_law_205 : decode cL_law 205 = .ok (.aload_n 0, 1) := by decide +kernel
theorem dL_law_206 : decode cL_law 206 = .ok (.iload_n 3, 1) := by decide +kernel
theorem dL_law_207 : decode cL_law 207 = .ok (.iconst 3, 1) := by decide +kernel
theorem dL_law_208 : decode cL_law 208 = .ok (.iadd, 1) := by decide +kernel
theorem dL_law_209 : decode cL_law 209 = .ok (.iaload, 1) := by decide +kernel
theorem dL_law_210 : decode cL_law 210 = .ok (.invokevirtual 22, 3) := by decide +kernel
theorem dL_law_213 : decode cL_law 213 = .ok (.aload_n 2, 1) := by decide +kernel
theorem dL_law_214 : decode cL_law 214 = .ok (.aload_n 0, 1) := by decide +kernel
theorem dL_law_215 : decode cL_law 215 = .ok (.iload_n 3, 1) := by decide +kernel
theorem dL_law_216 : decode cL_law 216 = .ok (.iconst 1, 1) := by decide +kernel
theorem dL_law_217 : decode cL_law 217 = .ok (.iadd, 1) := by decide +kernel
theorem dL_law_218 : decode cL_law 218 = .ok (.iaload, 1) := by decide +kernel
theorem dL_law_219 : decode cL_law 219 = .ok (.aload_n 0, 1) := by decide +kernel
theorem dL_law_220 : decode cL_law 220 = .ok (.iload_n 3, 1) := by decide +kernel
theorem dL_law_221 : decode cL_law 221 = .ok (.iconst 2, 1) := by decide +kernel
theorem dL_law_222 : decode cL_law 222 = .ok (.iadd, 1) := by decide +kernel
theorem dL_law_223 : decode cL_law 223 = .ok (.iaload, 1) := by decide +kernel
theorem dL_law_224 : decode cL_law 224 = .ok (.aload_n 0, 1) := by decide +kernel
theorem dL_law_225 : decode cL_law 225 = .ok (.iload_n 3, 1) := by decide +kernel
theorem dL_law_226 : decode cL_law 226 = .ok (.iconst 3, 1) := by decide +kernel
theorem dL_law_227 : decode cL_law 227 = .ok (.iadd, 1) := by decide +kernel
theorem dL_law_228 : decode cL_law 228 = .ok (.iaload, 1) := by decide +kernel
theorem dL_law_229 : decode cL_law 229 = .ok (.invokevirtual 26, 3) := by decide +kernel
theorem dL_law_232 : decode cL_law 232 = .ok (.if_icmp .eq 436, 3) := by decide +kernel
theorem dL_law_235 : decode cL_law 235 = .ok (.iconst 0, 1) := by decide +kernel
theorem dL_law_236 : decode cL_law 236 = .ok (.ireturn, 1) := by decide +kernel
theorem dL_law_237 : decode cL_law 237 = .ok (.aload_n 1, 1) := by decide +kernel
theorem dL_law_238 : decode cL_law 238 = .ok (.aload_n 0, 1) := by decide +kernel
theorem dL_law_239 : decode cL_law 239 = .ok (.iload_n 3, 1) := by decide +kernel
theorem dL_law_240 : decode cL_law 240 = .ok (.iconst 1, 1) := by decide +kernel
theorem dL_law_241 : decode cL_law 241 = .ok (.iadd, 1) := by decide +kernel
theorem dL_law_242 : decode cL_law 242 = .ok (.iaload, 1) := by decide +kernel
theorem dL_law_243 : decode cL_law 243 = .ok (.invokevirtual 27, 3) := by decide +kernel
theorem dL_law_246 : decode cL_law 246 = .ok (.aload_n 2, 1) := by decide +kernel
theorem dL_law_247 : decode cL_law 247 = .ok (.aload_n 0, 1) := by decide +kernel
theorem dL_law_248 : decode cL_law 248 = .ok (.iload_n 3, 1) := by decide +kernel
theorem dL_law_249 : decode cL_law 249 = .ok (.iconst 1, 1) := by decide +kernel
theorem dL_law_250 : decode cL_law 250 = .ok (.iadd, 1) := by decide +kernel
theorem dL_law_251 : decode cL_law 251 = .ok (.iaload, 1) := by decide +kernel
theorem dL_law_252 : decode cL_law 252 = .ok (.invokevirtual 31, 3) := by decide +kernel
theorem dL_law_255 : decode cL_law 255 = .ok (.if_icmp .eq 413, 3) := by decide +kernel
theorem dL_law_258 : decode cL_law 258 = .ok (.iconst 0, 1) := by decide +kernel
theorem dL_law_259 : decode cL_law 259 = .ok (.ireturn, 1) := by decide +kernel
theorem dL_law_260 : decode cL_law 260 = .ok (.aload_n 1, 1) := by decide +kernel
theorem dL_law_261 : decode cL_law 261 = .ok (.aload_n 0, 1) := by decide +kernel
theorem dL_law_262 : decode cL_law 262 = .ok (.iload_n 3, 1) := by decide +kernel
theorem dL_law_263 : decode cL_law 263 = .ok (.iconst 1, 1) := by decide +kernel
theorem dL_law_264 : decode cL_law 264 = .ok (.iadd, 1) := by decide +kernel
theorem dL_law_265 : decode cL_law 265 = .ok (.iaload, 1) := by decide +kernel
theorem dL_law_266 : decode cL_law 266 = .ok (.invokevirtual 32, 3) := by decide +kernel
theorem dL_law_269 : decode cL_law 269 = .ok (.aload_n 2, 1) := by decide +kernel
theorem dL_law_270 : decode cL_law 270 = .ok (.aload_n 0, 1) := by decide +kernel
theorem dL_law_271 : decode cL_law 271 = .ok (.iload_n 3, 1) := by decide +kernel
theorem dL_law_272 : decode cL_law 272 = .ok (.iconst 1, 1) := by decide +kernel
theorem dL_law_273 : decode cL_law 273 = .ok (.iadd, 1) := by decide +kernel
theorem dL_law_274 : decode cL_law 274 = .ok (.iaload, 1) := by decide +kernel
theorem dL_law_275 : decode cL_law 275 = .ok (.invokevirtual 35, 3) := by decide +kernel
theorem dL_law_278 : decode cL_law 278 = .ok (.if_icmp .eq 390, 3) := by decide +kernel
theorem dL_law_281 : decode cL_law 281 = .ok (.iconst 0, 1) := by decide +kernel
theorem dL_law_282 : decode cL_law 282 = .ok (.ireturn, 1) := by decide +kernel
theorem dL_law_283 : decode cL_law 283 = .ok (.aload_n 1, 1) := by decide +kernel
theorem dL_law_284 : decode cL_law 284 = .ok (.invokevirtual 36, 3) := by decide +kernel
theorem dL_law_287 : decode cL_law 287 = .ok (.aload_n 2, 1) := by decide +kernel
theorem dL_law_288 : decode cL_law 288 = .ok (.invokevirtual 40, 3) := by decide +kernel
theorem dL_law_291 : decode cL_law 291 = .ok (.if_icmp .eq 377, 3) := by decide +kernel
theorem dL_law_294 : decode cL_law 294 = .ok (.iconst 0, 1) := by decide +kernel
theorem dL_law_295 : decode cL_law 295 = .ok (.ireturn, 1) := by decide +kernel
theorem dL_law_296 : decode cL_law 296 = .ok (.aload_n 1, 1) := by decide +kernel
theorem dL_law_297 : decode cL_law 297 = .ok (.aload_n 0, 1) := by decide +kernel
theorem dL_law_298 : decode cL_law 298 = .ok (.iload_n 3, 1) := by decide +kernel
theorem dL_law_299 : decode cL_law 299 = .ok (.iconst 1, 1) := by decide +kernel
theorem dL_law_300 : decode cL_law 300 = .ok (.iadd, 1) := by decide +kernel
theorem dL_law_301 : decode cL_law 301 = .ok (.iaload, 1) := by decide +kernel
theorem dL_law_302 : decode cL_law 302 = .ok (.aload_n 0, 1) := by decide +kernel
theorem dL_law_303 : decode cL_law 303 = .ok (.iload_n 3, 1) := by decide +kernel
theorem dL_law_304 : decode cL_law 304 = .ok (.iconst 2, 1) := by decide +kernel
theorem dL_law_305 : decode cL_law 305 = .ok (.iadd, 1) := by decide +kernel
theorem dL_law_306 : decode cL_law 306 = .ok (.iaload, 1) := by decide +kernel
theorem dL_law_307 : decode cL_law 307 = .ok (.invokevirtual 41, 3) := by decide +kernel
theorem dL_law_310 : decode cL_law 310 = .ok (.aload_n 2, 1) := by decide +kernel
theorem dL_law_311 : decode cL_law 311 = .ok (.aload_n 0, 1) := by decide +kernel
theorem dL_law_312 : decode cL_law 312 = .ok (.iload_n 3, 1) := by decide +kernel
theorem dL_law_313 : decode cL_law 313 = .ok (.iconst 1, 1) := by decide +kernel
theorem dL_law_314 : decode cL_law 314 = .ok (.iadd, 1) := by decide +kernel
theorem dL_law_315 : decode cL_law 315 = .ok (.iaload, 1) := by decide +kernel
theorem dL_law_316 : decode cL_law 316 = .ok (.aload_n 0, 1) := by decide +kernel
theorem dL_law_317 : decode cL_law 317 = .ok (.iload_n 3, 1) := by decide +kernel
theorem dL_law_318 : decode cL_law 318 = .ok (.iconst 2, 1) := by decide +kernel
theorem dL_law_319 : decode cL_law 319 = .ok (.iadd, 1) := by decide +kernel
theorem dL_law_320 : decode cL_law 320 = .ok (.iaload, 1) := by decide +kernel
theorem dL_law_321 : decode cL_law 321 = .ok (.invokevirtual 44, 3) := by decide +kernel
theorem dL_law_324 : decode cL_law 324 = .ok (.if_icmp .eq 344, 3) := by decide +kernel
theorem dL_law_327 : decode cL_law 327 = .ok (.iconst 0, 1) := by decide +kernel
theorem dL_law_328 : decode cL_law 328 = .ok (.ireturn, 1) := by decide +kernel
theorem dL_law_329 : decode cL_law 329 = .ok (.aload_n 1, 1) := by decide +kernel
theorem dL_law_330 : decode cL_law 330 = .ok (.aload_n 0, 1) := by decide +kernel
theorem dL_law_331 : decode cL_law 331 = .ok (.iload_n 3, 1) := by decide +kernel
theorem dL_law_332 : decode cL_law 332 = .ok (.iconst 1, 1) := by decide +kernel
theorem dL_law_333 : decode cL_law 333 = .ok (.iadd, 1) := by decide +kernel
theorem dL_law_334 : decode cL_law 334 = .ok (.iaload, 1) := by decide +kernel
theorem dL_law_335 : decode cL_law 335 = .ok (.aload_n 0, 1) := by decide +kernel
theorem dL_law_336 : decode cL_law 336 = .ok (.iload_n 3, 1) := by decide +kernel
theorem dL_law_337 : decode cL_law 337 = .ok (.iconst 2, 1) := by decide +kernel
theorem dL_law_338 : decode cL_law 338 = .ok (.iadd, 1) := by decide +kernel
theorem dL_law_339 : decode cL_law 339 = .ok (.iaload, 1) := by decide +kernel
theorem dL_law_340 : decode cL_law 340 = .ok (.invokevirtual 45, 3) := by decide +kernel
theorem dL_law_343 : decode cL_law 343 = .ok (.aload_n 2, 1) := by decide +kernel
theorem dL_law_344 : decode cL_law 344 = .ok (.aload_n 0, 1) := by decide +kernel
theorem dL_law_345 : decode cL_law 345 = .ok (.iload_n 3, 1) := by decide +kernel
theorem dL_law_346 : decode cL_law 346 = .ok (.iconst 1, 1) := by decide +kernel
theorem dL_law_347 : decode cL_law 347 = .ok (.iadd, 1) := by decide +kernel
theorem dL_law_348 : decode cL_law 348 = .ok (.iaload, 1) := by decide +kernel
theorem dL_law_349 : decode cL_law 349 = .ok (.aload_n 0, 1) := by decide +kernel
theorem dL_law_350 : decode cL_law 350 = .ok (.iload_n 3, 1) := by decide +kernel
theorem dL_law_351 : decode cL_law 351 = .ok (.iconst 2, 1) := by decide +kernel
theorem dL_law_352 : decode cL_law 352 = .ok (.iadd, 1) := by decide +kernel
theorem dL_law_353 : decode cL_law 353 = .ok (.iaload, 1) := by decide +kernel
theorem dL_law_354 : decode cL_law 354 = .ok (.invokevirtual 48, 3) := by decide +kernel
theorem dL_law_357 : decode cL_law 357 = .ok (.if_icmp .eq 311, 3) := by decide +kernel
theorem dL_law_360 : decode cL_law 360 = .ok (.iconst 0, 1) := by decide +kernel
theorem dL_law_361 : decode cL_law 361 = .ok (.ireturn, 1) := by decide +kernel
theorem dL_law_362 : decode cL_law 362 = .ok (.aload_n 1, 1) := by decide +kernel
theorem dL_law_363 : decode cL_law 363 = .ok (.aload_n 0, 1) := by decide +kernel
theorem dL_law_364 : decode cL_law 364 = .ok (.iload_n 3, 1) := by decide +kernel
theorem dL_law_365 : decode cL_law 365 = .ok (.iconst 1, 1) := by decide +kernel
theorem dL_law_366 : decode cL_law 366 = .ok (.iadd, 1) := by decide +kernel
theorem dL_law_367 : decode cL_law 367 = .ok (.iaload, 1) := by decide +kernel
theorem dL_law_368 : decode cL_law 368 = .ok (.invokevirtual 49, 3) := by decide +kernel
theorem dL_law_371 : decode cL_law 371 = .ok (.aload_n 2, 1) := by decide +kernel
theorem dL_law_372 : decode cL_law 372 = .ok (.aload_n 0, 1) := by decide +kernel
theorem dL_law_373 : decode cL_law 373 = .ok (.iload_n 3, 1) := by decide +kernel
theorem dL_law_374 : decode cL_law 374 = .ok (.iconst 1, 1) := by decide +kernel
theorem dL_law_375 : decode cL_law 375 = .ok (.iadd, 1) := by decide +kernel
theorem dL_law_376 : decode cL_law 376 = .ok (.iaload, 1) := by decide +kernel
theorem dL_law_377 : decode cL_law 377 = .ok (.invokevirtual 52, 3) := by decide +kernel
theorem dL_law_380 : decode cL_law 380 = .ok (.if_icmp .eq 288, 3) := by decide +kernel
theorem dL_law_383 : decode cL_law 383 = .ok (.iconst 0, 1) := by decide +kernel
theorem dL_law_384 : decode cL_law 384 = .ok (.ireturn, 1) := by decide +kernel
theorem dL_law_385 : decode cL_law 385 = .ok (.aload_n 1, 1) := by decide +kernel
theorem dL_law_386 : decode cL_law 386 = .ok (.aload_n 0, 1) := by decide +kernel
theorem dL_law_387 : decode cL_law 387 = .ok (.iload_n 3, 1) := by decide +kernel
theorem dL_law_388 : decode cL_law 388 = .ok (.iconst 1, 1) := by decide +kernel
theorem dL_law_389 : decode cL_law 389 = .ok (.iadd, 1) := by decide +kernel
theorem dL_law_390 : decode cL_law 390 = .ok (.iaload, 1) := by decide +kernel
theorem dL_law_391 : decode cL_law 391 = .ok (.aload_n 0, 1) := by decide +kernel
theorem dL_law_392 : decode cL_law 392 = .ok (.iload_n 3, 1) := by decide +kernel
theorem dL_law_393 : decode cL_law 393 = .ok (.iconst 2, 1) := by decide +kernel
theorem dL_law_394 : decode cL_law 394 = .ok (.iadd, 1) := by decide +kernel
theorem dL_law_395 : decode cL_law 395 = .ok (.iaload, 1) := by decide +kernel
theorem dL_law_396 : decode cL_law 396 = .ok (.invokevirtual 53, 3) := by decide +kernel
theorem dL_law_399 : decode cL_law 399 = .ok (.aload_n 2, 1) := by decide +kernel
theorem dL_law_400 : decode cL_law 400 = .ok (.aload_n 0, 1) := by decide +kernel
theorem dL_law_401 : decode cL_law 401 = .ok (.iload_n 3, 1) := by decide +kernel
theorem dL_law_402 : decode cL_law 402 = .ok (.iconst 1, 1) := by decide +kernel
theorem dL_law_403 : decode cL_law 403 = .ok (.iadd, 1) := by decide +kernel
theorem dL_law_404 : decode cL_law 404 = .ok (.iaload, 1) := by decide +kernel
theorem dL_law_405 : decode cL_law 405 = .ok (.aload_n 0, 1) := by decide +kernel
theorem dL_law_406 : decode cL_law 406 = .ok (.iload_n 3, 1) := by decide +kernel
theorem dL_law_407 : decode cL_law 407 = .ok (.iconst 2, 1) := by decide +kernel
theorem dL_law_408 : decode cL_law 408 = .ok (.iadd, 1) := by decide +kernel
theorem dL_law_409 : decode cL_law 409 = .ok (.iaload, 1) := by decide +kernel
theorem dL_law_410 : decode cL_law 410 = .ok (.invokevirtual 56, 3) := by decide +kernel
theorem dL_law_413 : decode cL_law 413 = .ok (.if_icmp .eq 255, 3) := by decide +kernel
theorem dL_law_416 : decode cL_law 416 = .ok (.iconst 0, 1) := by decide +kernel
theorem dL_law_417 : decode cL_law 417 = .ok (.ireturn, 1) := by decide +kernel
theorem dL_law_418 : decode cL_law 418 = .ok (.aload_n 1, 1) := by decide +kernel
theorem dL_law_419 : decode cL_law 419 = .ok (.aload_n 0, 1) := by decide +kernel
theorem dL_law_420 : decode cL_law 420 = .ok (.iload_n 3, 1) := by decide +kernel
theorem dL_law_421 : decode cL_law 421 = .ok (.iconst 1, 1) := by decide +kernel
theorem dL_law_422 : decode cL_law 422 = .ok (.iadd, 1) := by decide +kernel
theorem dL_law_423 : decode cL_law 423 = .ok (.iaload, 1) := by decide +kernel
theorem dL_law_424 : decode cL_law 424 = .ok (.aload_n 0, 1) := by decide +kernel
theorem dL_law_425 : decode cL_law 425 = .ok (.iload_n 3, 1) := by decide +kernel
theorem dL_law_426 : decode cL_law 426 = .ok (.iconst 2, 1) := by decide +kernel
theorem dL_law_427 : decode cL_law 427 = .ok (.iadd, 1) := by decide +kernel
theorem dL_law_428 : decode cL_law 428 = .ok (.iaload, 1) := by decide +kernel
theorem dL_law_429 : decode cL_law 429 = .ok (.invokevirtual 57, 3) := by decide +kernel
theorem dL_law_432 : decode cL_law 432 = .ok (.aload_n 2, 1) := by decide +kernel
theorem dL_law_433 : decode cL_law 433 = .ok (.aload_n 0, 1) := by decide +kernel
theorem dL_law_434 : decode cL_law 434 = .ok (.iload_n 3, 1) := by decide +kernel
theorem dL_law_435 : decode cL_law 435 = .ok (.iconst 1, 1) := by decide +kernel
theorem dL_law_436 : decode cL_law 436 = .ok (.iadd, 1) := by decide +kernel
theorem dL_law_437 : decode cL_law 437 = .ok (.iaload, 1) := by decide +kernel
theorem dL_law_438 : decode cL_law 438 = .ok (.aload_n 0, 1) := by decide +kernel
theorem dL_law_439 : decode cL_law 439 = .ok (.iload_n 3, 1) := by decide +kernel
theorem dL_law_440 : decode cL_law 440 = .ok (.iconst 2, 1) := by decide +kernel
theorem dL_law_441 : decode cL_law 441 = .ok (.iadd, 1) := by decide +kernel
theorem dL_law_442 : decode cL_law 442 = .ok (.iaload, 1) := by decide +kernel
theorem dL_law_443 : decode cL_law 443 = .ok (.invokevirtual 60, 3) := by decide +kernel
theorem dL_law_446 : decode cL_law 446 = .ok (.if_icmp .eq 222, 3) := by decide +kernel
theorem dL_law_449 : decode cL_law 449 = .ok (.iconst 0, 1) := by decide +kernel
theorem dL_law_450 : decode cL_law 450 = .ok (.ireturn, 1) := by decide +kernel
theorem dL_law_451 : decode cL_law 451 = .ok (.aload_n 1, 1) := by decide +kernel
theorem dL_law_452 : decode cL_law 452 = .ok (.aload_n 0, 1) := by decide +kernel
theorem dL_law_453 : decode cL_law 453 = .ok (.iload_n 3, 1) := by decide +kernel
theorem dL_law_454 : decode cL_law 454 = .ok (.iconst 1, 1) := by decide +kernel
theorem dL_law_455 : decode cL_law 455 = .ok (.iadd, 1) := by decide +kernel
theorem dL_law_456 : decode cL_law 456 = .ok (.iaload, 1) := by decide +kernel
theorem dL_law_457 : decode cL_law 457 = .ok (.aload_n 0, 1) := by decide +kernel
theorem dL_law_458 : decode cL_law 458 = .ok (.iload_n 3, 1) := by decide +kernel
theorem dL_law_459 : decode cL_law 459 = .ok (.iconst 2, 1) := by decide +kernel
theorem dL_law_460 : decode cL_law 460 = .ok (.iadd, 1) := by decide +kernel
theorem dL_law_461 : decode cL_law 461 = .ok (.iaload, 1) := by decide +kernel
theorem dL_law_462 : decode cL_law 462 = .ok (.invokevirtual 61, 3) := by decide +kernel
theorem dL_law_465 : decode cL_law 465 = .ok (.aload_n 2, 1) := by decide +kernel
theorem dL_law_466 : decode cL_law 466 = .ok (.aload_n 0, 1) := by decide +kernel
theorem dL_law_467 : decode cL_law 467 = .ok (.iload_n 3, 1) := by decide +kernel
theorem dL_law_468 : decode cL_law 468 = .ok (.iconst 1, 1) := by decide +kernel
theorem dL_law_469 : decode cL_law 469 = .ok (.iadd, 1) := by decide +kernel
theorem dL_law_470 : decode cL_law 470 = .ok (.iaload, 1) := by decide +kernel
theorem dL_law_471 : decode cL_law 471 = .ok (.aload_n 0, 1) := by decide +kernel
theorem dL_law_472 : decode cL_law 472 = .ok (.iload_n 3, 1) := by decide +kernel
theorem dL_law_473 : decode cL_law 473 = .ok (.iconst 2, 1) := by decide +kernel
theorem dL_law_474 : decode cL_law 474 = .ok (.iadd, 1) := by decide +kernel
theorem dL_law_475 : decode cL_law 475 = .ok (.iaload, 1) := by decide +kernel
theorem dL_law_476 : decode cL_law 476 = .ok (.invokevirtual 64, 3) := by decide +kernel
theorem dL_law_479 : decode cL_law 479 = .ok (.if_icmp .eq 189, 3) := by decide +kernel
theorem dL_law_482 : decode cL_law 482 = .ok (.iconst 0, 1) := by decide +kernel
theorem dL_law_483 : decode cL_law 483 = .ok (.ireturn, 1) := by decide +kernel
theorem dL_law_484 : decode cL_law 484 = .ok (.aload_n 1, 1) := by decide +kernel
theorem dL_law_485 : decode cL_law 485 = .ok (.aload_n 0, 1) := by decide +kernel
theorem dL_law_486 : decode cL_law 486 = .ok (.iload_n 3, 1) := by decide +kernel
theorem dL_law_487 : decode cL_law 487 = .ok (.iconst 1, 1) := by decide +kernel
theorem dL_law_488 : decode cL_law 488 = .ok (.iadd, 1) := by decide +kernel
theorem dL_law_489 : decode cL_law 489 = .ok (.iaload, 1) := by decide +kernel
theorem dL_law_490 : decode cL_law 490 = .ok (.aload_n 0, 1) := by decide +kernel
theorem dL_law_491 : decode cL_law 491 = .ok (.iload_n 3, 1) := by decide +kernel
theorem dL_law_492 : decode cL_law 492 = .ok (.iconst 2, 1) := by decide +kernel
theorem dL_law_493 : decode cL_law 493 = .ok (.iadd, 1) := by decide +kernel
theorem dL_law_494 : decode cL_law 494 = .ok (.iaload, 1) := by decide +kernel
theorem dL_law_495 : decode cL_law 495 = .ok (.invokevirtual 65, 3) := by decide +kernel
theorem dL_law_498 : decode cL_law 498 = .ok (.aload_n 2, 1) := by decide +kernel
theorem dL_law_499 : decode cL_law 499 = .ok (.aload_n 0, 1) := by decide +kernel
theorem dL_law_500 : decode cL_law 500 = .ok (.iload_n 3, 1) := by decide +kernel
theorem dL_law_501 : decode cL_law 501 = .ok (.iconst 1, 1) := by decide +kernel
theorem dL_law_502 : decode cL_law 502 = .ok (.iadd, 1) := by decide +kernel
theorem dL_law_503 : decode cL_law 503 = .ok (.iaload, 1) := by decide +kernel
theorem dL_law_504 : decode cL_law 504 = .ok (.aload_n 0, 1) := by decide +kernel
theorem dL_law_505 : decode cL_law 505 = .ok (.iload_n 3, 1) := by decide +kernel
theorem dL_law_506 : decode cL_law 506 = .ok (.iconst 2, 1) := by decide +kernel
theorem dL_law_507 : decode cL_law 507 = .ok (.iadd, 1) := by decide +kernel
theorem dL_law_508 : decode cL_law 508 = .ok (.iaload, 1) := by decide +kernel
theorem dL_law_509 : decode cL_law 509 = .ok (.invokevirtual 68, 3) := by decide +kernel
theorem dL_law_512 : decode cL_law 512 = .ok (.if_icmp .eq 156, 3) := by decide +kernel
theorem dL_law_515 : decode cL_law 515 = .ok (.iconst 0, 1) := by decide +kernel
theorem dL_law_516 : decode cL_law 516 = .ok (.ireturn, 1) := by decide +kernel
theorem dL_law_517 : decode cL_law 517 = .ok (.aload_n 1, 1) := by decide +kernel
theorem dL_law_518 : decode cL_law 518 = .ok (.aload_n 0, 1) := by decide +kernel
theorem dL_law_519 : decode cL_law 519 = .ok (.iload_n 3, 1) := by decide +kernel
theorem dL_law_520 : decode cL_law 520 = .ok (.iconst 1, 1) := by decide +kernel
theorem dL_law_521 : decode cL_law 521 = .ok (.iadd, 1) := by decide +kernel
theorem dL_law_522 : decode cL_law 522 = .ok (.iaload, 1) := by decide +kernel
theorem dL_law_523 : decode cL_law 523 = .ok (.i2l, 1) := by decide +kernel
theorem dL_law_524 : decode cL_law 524 = .ok (.bipush 32, 2) := by decide +kernel
theorem dL_law_526 : decode cL_law 526 = .ok (.lshl, 1) := by decide +kernel
theorem dL_law_527 : decode cL_law 527 = .ok (.aload_n 0, 1) := by decide +kernel
theorem dL_law_528 : decode cL_law 528 = .ok (.iload_n 3, 1) := by decide +kernel
theorem dL_law_529 : decode cL_law 529 = .ok (.iconst 2, 1) := by decide +kernel
theorem dL_law_530 : decode cL_law 530 = .ok (.iadd, 1) := by decide +kernel
theorem dL_law_531 : decode cL_law 531 = .ok (.iaload, 1) := by decide +kernel
theorem dL_law_532 : decode cL_law 532 = .ok (.i2l, 1) := by decide +kernel
theorem dL_law_533 : decode cL_law 533 = .ok (.ldc2_w 69, 3) := by decide +kernel
theorem dL_law_536 : decode cL_law 536 = .ok (.land, 1) := by decide +kernel
theorem dL_law_537 : decode cL_law 537 = .ok (.lor, 1) := by decide +kernel
theorem dL_law_538 : decode cL_law 538 = .ok (.invokevirtual 71, 3) := by decide +kernel
theorem dL_law_541 : decode cL_law 541 = .ok (.aload_n 2, 1) := by decide +kernel
theorem dL_law_542 : decode cL_law 542 = .ok (.aload_n 0, 1) := by decide +kernel
theorem dL_law_543 : decode cL_law 543 = .ok (.iload_n 3, 1) := by decide +kernel
theorem dL_law_544 : decode cL_law 544 = .ok (.iconst 1, 1) := by decide +kernel
theorem dL_law_545 : decode cL_law 545 = .ok (.iadd, 1) := by decide +kernel
theorem dL_law_546 : decode cL_law 546 = .ok (.iaload, 1) := by decide +kernel
theorem dL_law_547 : decode cL_law 547 = .ok (.i2l, 1) := by decide +kernel
theorem dL_law_548 : decode cL_law 548 = .ok (.bipush 32, 2) := by decide +kernel
theorem dL_law_550 : decode cL_law 550 = .ok (.lshl, 1) := by decide +kernel
theorem dL_law_551 : decode cL_law 551 = .ok (.aload_n 0, 1) := by decide +kernel
theorem dL_law_552 : decode cL_law 552 = .ok (.iload_n 3, 1) := by decide +kernel
theorem dL_law_553 : decode cL_law 553 = .ok (.iconst 2, 1) := by decide +kernel
theorem dL_law_554 : decode cL_law 554 = .ok (.iadd, 1) := by decide +kernel
theorem dL_law_555 : decode cL_law 555 = .ok (.iaload, 1) := by decide +kernel
theorem dL_law_556 : decode cL_law 556 = .ok (.i2l, 1) := by decide +kernel
theorem dL_law_557 : decode cL_law 557 = .ok (.ldc2_w 69, 3) := by decide +kernel
theorem dL_law_560 : decode cL_law 560 = .ok (.land, 1) := by decide +kernel
theorem dL_law_561 : decode cL_law 561 = .ok (.lor, 1) := by decide +kernel
theorem dL_law_562 : decode cL_law 562 = .ok (.invokevirtual 75, 3) := by decide +kernel
theorem dL_law_565 : decode cL_law 565 = .ok (.if_icmp .eq 103, 3) := by decide +kernel
theorem dL_law_568 : decode cL_law 568 = .ok (.iconst 0, 1) := by decide +kernel
theorem dL_law_569 : decode cL_law 569 = .ok (.ireturn, 1) := by decide +kernel
theorem dL_law_570 : decode cL_law 570 = .ok (.aload_n 1, 1) := by decide +kernel
theorem dL_law_571 : decode cL_law 571 = .ok (.invokevirtual 76, 3) := by decide +kernel
theorem dL_law_574 : decode cL_law 574 = .ok (.aload_n 2, 1) := by decide +kernel
theorem dL_law_575 : decode cL_law 575 = .ok (.invokevirtual 79, 3) := by decide +kernel
theorem dL_law_578 : decode cL_law 578 = .ok (.if_icmp .eq 90, 3) := by decide +kernel
theorem dL_law_581 : decode cL_law 581 = .ok (.iconst 0, 1) := by decide +kernel
theorem dL_law_582 : decode cL_law 582 = .ok (.ireturn, 1) := by decide +kernel
theorem dL_law_583 : decode cL_law 583 = .ok (.aload_n 1, 1) := by decide +kernel
theorem dL_law_584 : decode cL_law 584 = .ok (.invokevirtual 80, 3) := by decide +kernel
theorem dL_law_587 : decode cL_law 587 = .ok (.aload_n 2, 1) := by decide +kernel
theorem dL_law_588 : decode cL_law 588 = .ok (.invokevirtual 83, 3) := by decide +kernel
theorem dL_law_591 : decode cL_law 591 = .ok (.if_icmp .eq 77, 3) := by decide +kernel
theorem dL_law_594 : decode cL_law 594 = .ok (.iconst 0, 1) := by decide +kernel
theorem dL_law_595 : decode cL_law 595 = .ok (.ireturn, 1) := by decide +kernel
theorem dL_law_596 : decode cL_law 596 = .ok (.aload_n 1, 1) := by decide +kernel
theorem dL_law_597 : decode cL_law 597 = .ok (.invokevirtual 84, 3) := by decide +kernel
theorem dL_law_600 : decode cL_law 600 = .ok (.aload_n 2, 1) := by decide +kernel
theorem dL_law_601 : decode cL_law 601 = .ok (.invokevirtual 87, 3) := by decide +kernel
theorem dL_law_604 : decode cL_law 604 = .ok (.if_icmp .eq 64, 3) := by decide +kernel
theorem dL_law_607 : decode cL_law 607 = .ok (.iconst 0, 1) := by decide +kernel
theorem dL_law_608 : decode cL_law 608 = .ok (.ireturn, 1) := by decide +kernel
theorem dL_law_609 : decode cL_law 609 = .ok (.aload_n 1, 1) := by decide +kernel
theorem dL_law_610 : decode cL_law 610 = .ok (.invokevirtual 88, 3) := by decide +kernel
theorem dL_law_613 : decode cL_law 613 = .ok (.aload_n 2, 1) := by decide +kernel
theorem dL_law_614 : decode cL_law 614 = .ok (.invokevirtual 91, 3) := by decide +kernel
theorem dL_law_617 : decode cL_law 617 = .ok (.if_icmp .eq 51, 3) := by decide +kernel
theorem dL_law_620 : decode cL_law 620 = .ok (.iconst 0, 1) := by decide +kernel
theorem dL_law_621 : decode cL_law 621 = .ok (.ireturn, 1) := by decide +kernel
theorem dL_law_622 : decode cL_law 622 = .ok (.aload_n 1, 1) := by decide +kernel
theorem dL_law_623 : decode cL_law 623 = .ok (.aload_n 0, 1) := by decide +kernel
theorem dL_law_624 : decode cL_law 624 = .ok (.iload_n 3, 1) := by decide +kernel
theorem dL_law_625 : decode cL_law 625 = .ok (.iconst 1, 1) := by decide +kernel
theorem dL_law_626 : decode cL_law 626 = .ok (.iadd, 1) := by decide +kernel
theorem dL_law_627 : decode cL_law 627 = .ok (.iaload, 1) := by decide +kernel
theorem dL_law_628 : decode cL_law 628 = .ok (.invokevirtual 92, 3) := by decide +kernel
theorem dL_law_631 : decode cL_law 631 = .ok (.aload_n 2, 1) := by decide +kernel
theorem dL_law_632 : decode cL_law 632 = .ok (.aload_n 0, 1) := by decide +kernel
theorem dL_law_633 : decode cL_law 633 = .ok (.iload_n 3, 1) := by decide +kernel
theorem dL_law_634 : decode cL_law 634 = .ok (.iconst 1, 1) := by decide +kernel
theorem dL_law_635 : decode cL_law 635 = .ok (.iadd, 1) := by decide +kernel
theorem dL_law_636 : decode cL_law 636 = .ok (.iaload, 1) := by decide +kernel
theorem dL_law_637 : decode cL_law 637 = .ok (.invokevirtual 95, 3) := by decide +kernel
theorem dL_law_640 : decode cL_law 640 = .ok (.if_icmp .eq 28, 3) := by decide +kernel
theorem dL_law_643 : decode cL_law 643 = .ok (.iconst 0, 1) := by decide +kernel
theorem dL_law_644 : decode cL_law 644 = .ok (.ireturn, 1) := by decide +kernel
theorem dL_law_645 : decode cL_law 645 = .ok (.aload_n 1, 1) := by decide +kernel
theorem dL_law_646 : decode cL_law 646 = .ok (.aload_n 0, 1) := by decide +kernel
theorem dL_law_647 : decode cL_law 647 = .ok (.iload_n 3, 1) := by decide +kernel
theorem dL_law_648 : decode cL_law 648 = .ok (.iconst 1, 1) := by decide +kernel
theorem dL_law_649 : decode cL_law 649 = .ok (.iadd, 1) := by decide +kernel
theorem dL_law_650 : decode cL_law 650 = .ok (.iaload, 1) := by decide +kernel
theorem dL_law_651 : decode cL_law 651 = .ok (.invokevirtual 96, 3) := by decide +kernel
theorem dL_law_654 : decode cL_law 654 = .ok (.aload_n 2, 1) := by decide +kernel
theorem dL_law_655 : decode cL_law 655 = .ok (.aload_n 0, 1) := by decide +kernel
theorem dL_law_656 : decode cL_law 656 = .ok (.iload_n 3, 1) := by decide +kernel
theorem dL_law_657 : decode cL_law 657 = .ok (.iconst 1, 1) := by decide +kernel
theorem dL_law_658 : decode cL_law 658 = .ok (.iadd, 1) := by decide +kernel
theorem dL_law_659 : decode cL_law 659 = .ok (.iaload, 1) := by decide +kernel
theorem dL_law_660 : decode cL_law 660 = .ok (.invokevirtual 99, 3) := by decide +kernel
theorem dL_law_663 : decode cL_law 663 = .ok (.if_icmp .eq 5, 3) := by decide +kernel
theorem dL_law_666 : decode cL_law 666 = .ok (.iconst 0, 1) := by decide +kernel
theorem dL_law_667 : decode cL_law 667 = .ok (.ireturn, 1) := by decide +kernel
theorem dL_law_668 : decode cL_law 668 = .ok (.iinc 3 4, 3) := by decide +kernel
theorem dL_law_671 : decode cL_law 671 = .ok (.goto (-653), 3) := by decide +kernel
theorem dL_law_674 : decode cL_law 674 = .ok (.iconst 1, 1) := by decide +kernel
theorem dL_law_675 : decode cL_law 675 = .ok (.ireturn, 1) := by decide +kernel
