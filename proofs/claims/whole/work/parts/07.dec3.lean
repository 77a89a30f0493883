theorem dX5_init_0 : decode cX5_init 0 = .ok (.aload_n 0, 1) := by decide +kernel
theorem dX5_init_1 : decode cX5_init 1 = .ok (.invokespecial 1, 3) := by decide +kernel
theorem dX5_init_4 : decode cX5_init 4 = .ok (.aload_n 0, 1) := by decide +kernel
theorem dX5_init_5 : decode cX5_init 5 = .ok (.bipush 122, 2) := by decide +kernel
theorem dX5_init_7 : decode cX5_init 7 = .ok (.newarray .int, 2) := by decide +kernel
theorem dX5_init_9 : decode cX5_init 9 = .ok (.putfield 7, 3) := by decide +kernel
theorem dX5_init_12 : decode cX5_init 12 = .ok (.aload_n 0, 1) := by decide +kernel
theorem dX5_init_13 : decode cX5_init 13 = .ok (.sipush 366, 3) := by decide +kernel
theorem dX5_init_16 : decode cX5_init 16 = .ok (.newarray .int, 2) := by decide +kernel
theorem dX5_init_18 : decode cX5_init 18 = .ok (.putfield 13, 3) := by decide +kernel
theorem dX5_init_21 : decode cX5_init 21 = .ok (.aload_n 0, 1) := by decide +kernel
theorem dX5_init_22 : decode cX5_init 22 = .ok (.bipush 122, 2) := by decide +kernel
theorem dX5_init_24 : decode cX5_init 24 = .ok (.newarray .int, 2) := by decide +kernel
theorem dX5_init_26 : decode cX5_init 26 = .ok (.putfield 16, 3) := by decide +kernel
theorem dX5_init_29 : decode cX5_init 29 = .ok (.aload_n 0, 1) := by decide +kernel
theorem dX5_init_30 : decode cX5_init 30 = .ok (.iconst 2, 1) := by decide +kernel
theorem dX5_init_31 : decode cX5_init 31 = .ok (.newarray .boolean, 2) := by decide +kernel
theorem dX5_init_33 : decode cX5_init 33 = .ok (.putfield 19, 3) := by decide +kernel
theorem dX5_init_36 : decode cX5_init 36 = .ok (.aload_n 0, 1) := by decide +kernel
theorem dX5_init_37 : decode cX5_init 37 = .ok (.bipush 80, 2) := by decide +kernel
theorem dX5_init_39 : decode cX5_init 39 = .ok (.newarray .int, 2) := by decide +kernel
theorem dX5_init_41 : decode cX5_init 41 = .ok (.putfield 23, 3) := by decide +kernel
theorem dX5_init_44 : decode cX5_init 44 = .ok (.aload_n 0, 1) := by decide +kernel
theorem dX5_init_45 : decode cX5_init 45 = .ok (.getfield 7, 3) := by decide +kernel
theorem dX5_init_48 : decode cX5_init 48 = .ok (.iconst 0, 1) := by decide +kernel
theorem dX5_init_49 : decode cX5_init 49 = .ok (.bipush 8, 2) := by decide +kernel
theorem dX5_init_51 : decode cX5_init 51 = .ok (.iastore, 1) := by decide +kernel
theorem dX5_init_52 : decode cX5_init 52 = .ok (.aload_n 0, 1) := by decide +kernel
theorem dX5_init_53 : decode cX5_init 53 = .ok (.getfield 7, 3) := by decide +kernel
theorem dX5_init_56 : decode cX5_init 56 = .ok (.iconst 1, 1) := by decide +kernel
theorem dX5_init_57 : decode cX5_init 57 = .ok (.bipush 6, 2) := by decide +kernel
theorem dX5_init_59 : decode cX5_init 59 = .ok (.iastore, 1) := by decide +kernel
theorem dX5_init_60 : decode cX5_init 60 = .ok (.aload_n 0, 1) := by decide +kernel
theorem dX5_init_61 : decode cX5_init 61 = .ok (.getfield 7, 3) := by decide +kernel
theorem dX5_init_64 : decode cX5_init 64 = .ok (.iconst 2, 1) := by decide +kernel
theorem dX5_init_65 : decode cX5_init 65 = .ok (.bipush 8, 2) := by decide +kernel
theorem dX5_init_67 : decode cX5_init 67 = .ok (.iastore, 1) := by decide +kernel
theorem dX5_init_68 : decode cX5_init 68 = .ok (.aload_n 0, 1) := by decide +kernel
theorem dX5_init_69 : decode cX5_init 69 = .ok (.getfield 7, 3) := by decide +kernel
theorem dX5_init_72 : decode cX5_init 72 = .ok (.iconst 3, 1) := by decide +kernel
theorem dX5_init_73 : decode cX5_init 73 = .ok (.bipush 100, 2) := by decide +kernel
theorem dX5_init_75 : decode cX5_init 75 = .ok (.iastore, 1) := by decide +kernel
theorem dX5_init_76 : decode cX5_init 76 = .ok (.aload_n 0, 1) := by decide +kernel
theorem dX5_init_77 : decode cX5_init 77 = .ok (.getfield 7, 3) := by decide +kernel
theorem dX5_init_80 : decode cX5_init 80 = .ok (.iconst 4, 1) := by decide +kernel
theorem dX5_init_81 : decode cX5_init 81 = .ok (.sipush 150, 3) := by decide +kernel
theorem dX5_init_84 : decode cX5_init 84 = .ok (.iastore, 1) := by decide +kernel
theorem dX5_init_85 : decode cX5_init 85 = .ok (.aload_n 0, 1) := by decide +kernel
theorem dX5_init_86 : decode cX5_init 86 = .ok (.getfield 7, 3) := by decide +kernel
theorem dX5_init_89 : decode cX5_init 89 = .ok (.iconst 5, 1) := by decide +kernel
theorem dX5_init_90 : decode cX5_init 90 = .ok (.bipush 12, 2) := by decide +kernel
theorem dX5_init_92 : decode cX5_init 92 = .ok (.iastore, 1) := by decide +kernel
theorem dX5_init_93 : decode cX5_init 93 = .ok (.aload_n 0, 1) := by decide +kernel
theorem dX5_init_94 : decode cX5_init 94 = .ok (.getfield 7, 3) := by decide +kernel
theorem dX5_init_97 : decode cX5_init 97 = .ok (.bipush 6, 2) := by decide +kernel
theorem dX5_init_99 : decode cX5_init 99 = .ok (.iconst 4, 1) := by decide +kernel
theorem dX5_init_100 : decode cX5_init 100 = .ok (.iastore, 1) := by decide +kernel
theorem dX5_init_101 : decode cX5_init 101 = .ok (.aload_n 0, 1) := by decide +kernel
theorem dX5_init_102 : decode cX5_init 102 = .ok (.getfield 7, 3) := by decide +kernel
theorem dX5_init_105 : decode cX5_init 105 = .ok (.bipush 7, 2) := by decide +kernel
theorem dX5_init_107 : decode cX5_init 107 = .ok (.sipush 2048, 3) := by decide +kernel
theorem dX5_init_110 : decode cX5_init 110 = .ok (.iastore, 1) := by decide +kernel
theorem dX5_init_111 : decode cX5_init 111 = .ok (.aload_n 0, 1) := by decide +kernel
theorem dX5_init_112 : decode cX5_init 112 = .ok (.getfield 7, 3) := by decide +kernel
theorem dX5_init_115 : decode cX5_init 115 = .ok (.bipush 8, 2) := by decide +kernel
theorem dX5_init_117 : decode cX5_init 117 = .ok (.sipush 2048, 3) := by decide +kernel
theorem dX5_init_120 : decode cX5_init 120 = .ok (.iastore, 1) := by decide +kernel
theorem dX5_init_121 : decode cX5_init 121 = .ok (.aload_n 0, 1) := by decide +kernel
theorem dX5_init_122 : decode cX5_init 122 = .ok (.getfield 7, 3) := by decide +kernel
theorem dX5_init_125 : decode cX5_init 125 = .ok (.bipush 9, 2) := by decide +kernel
theorem dX5_init_127 : decode cX5_init 127 = .ok (.bipush 6, 2) := by decide +kernel
theorem dX5_init_129 : decode cX5_init 129 = .ok (.iastore, 1) := by decide +kernel
theorem dX5_init_130 : decode cX5_init 130 = .ok (.aload_n 0, 1) := by decide +kernel
theorem dX5_init_131 : decode cX5_init 131 = .ok (.getfield 7, 3) := by decide +kernel
theorem dX5_init_134 : decode cX5_init 134 = .ok (.bipush 10, 2) := by decide +kernel
theorem dX5_init_136 : decode cX5_init 136 = .ok (.iconst (-1), 1) := by decide +kernel
theorem dX5_init_137 : decode cX5_init 137 = .ok (.iastore, 1) := by decide +kernel
theorem dX5_init_138 : decode cX5_init 138 = .ok (.aload_n 0, 1) := by decide +kernel
theorem dX5_init_139 : decode cX5_init 139 = .ok (.getfield 7, 3) := by decide +kernel
theorem dX5_init_142 : decode cX5_init 142 = .ok (.bipush 11, 2) := by decide +kernel
theorem dX5_init_144 : decode cX5_init 144 = .ok (.iconst (-1), 1) := by decide +kernel
theorem dX5_init_145 : decode cX5_init 145 = .ok (.iastore, 1) := by decide +kernel
theorem dX5_init_146 : decode cX5_init 146 = .ok (.aload_n 0, 1) := by decide +kernel
theorem dX5_init_147 : decode cX5_init 147 = .ok (.getfield 7, 3) := by decide +kernel
theorem dX5_init_150 : decode cX5_init 150 = .ok (.bipush 23, 2) := by decide +kernel
theorem dX5_init_152 : decode cX5_init 152 = .ok (.iconst (-1), 1) := by decide +kernel
theorem dX5_init_153 : decode cX5_init 153 = .ok (.iastore, 1) := by decide +kernel
theorem dX5_init_154 : decode cX5_init 154 = .ok (.return_, 1) := by decide +kernel
theorem dX5_in_0 : decode cX5_in 0 = .ok (.iload_n 0, 1) := by decide +kernel
theorem dX5_in_1 : decode cX5_in 1 = .ok (.iload_n 1, 1) := by decide +kernel
theorem dX5_in_2 : decode cX5_in 2 = .ok (.if_icmp .lt 12, 3) := by decide +kernel
theorem dX5_in_5 : decode cX5_in 5 = .ok (.iload_n 0, 1) := by decide +kernel
theorem dX5_in_6 : decode cX5_in 6 = .ok (.iload_n 2, 1) := by decide +kernel
theorem dX5_in_7 : decode cX5_in 7 = .ok (.if_icmp .gt 7, 3) := by decide +kernel
theorem dX5_in_10 : decode cX5_in 10 = .ok (.iconst 1, 1) := by decide +kernel
theorem dX5_in_11 : decode cX5_in 11 = .ok (.goto 4, 3) := by decide +kernel
theorem dX5_in_14 : decode cX5_in 14 = .ok (.iconst 0, 1) := by decide +kernel
theorem dX5_in_15 : decode cX5_in 15 = .ok (.ireturn, 1) := by decide +kernel
theorem dX5_size_0 : decode cX5_size 0 = .ok (.iload_n 0, 1) := by decide +kernel
theorem dX5_size_1 : decode cX5_size 1 = .ok (.ifCond .ge 8, 3) := by decide +kernel
theorem dX5_size_4 : decode cX5_size 4 = .ok (.iload_n 0, 1) := by decide +kernel
theorem dX5_size_5 : decode cX5_size 5 = .ok (.ineg, 1) := by decide +kernel
theorem dX5_size_6 : decode cX5_size 6 = .ok (.goto 4, 3) := by decide +kernel
theorem dX5_size_9 : decode cX5_size 9 = .ok (.iload_n 0, 1) := by decide +kernel
theorem dX5_size_10 : decode cX5_size 10 = .ok (.ireturn, 1) := by decide +kernel
theorem dX5_greater_0 : decode cX5_greater 0 = .ok (.iload_n 0, 1) := by decide +kernel
theorem dX5_greater_1 : decode cX5_greater 1 = .ok (.iload_n 1, 1) := by decide +kernel
theorem dX5_greater_2 : decode cX5_greater 2 = .ok (.if_icmp .le 7, 3) := by decide +kernel
theorem dX5_greater_5 : decode cX5_greater 5 = .ok (.iload_n 0, 1) := by decide +kernel
theorem dX5_greater_6 : decode cX5_greater 6 = .ok (.goto 4, 3) := by decide +kernel
theorem dX5_greater_9 : decode cX5_greater 9 = .ok (.iload_n 1, 1) := by decide +kernel
theorem dX5_greater_10 : decode cX5_greater 10 = .ok (.ireturn, 1) := by decide +kernel
theorem dX5_areRight_0 : decode cX5_areRight 0 = .ok (.iload_n 0, 1) := by decide +kernel
theorem dX5_areRight_1 : decode cX5_areRight 1 = .ok (.iconst 0, 1) := by decide +kernel
theorem dX5_areRight_2 : decode cX5_areRight 2 = .ok (.sipush 255, 3) := by decide +kernel
theorem dX5_areRight_5 : decode cX5_areRight 5 = .ok (.invokestatic 26, 3) := by decide +kernel
theorem dX5_areRight_8 : decode cX5_areRight 8 = .ok (.ifCond .eq 18, 3) := by decide +kernel
theorem dX5_areRight_11 : decode cX5_areRight 11 = .ok (.iload_n 1, 1) := by decide +kernel
theorem dX5_areRight_12 : decode cX5_areRight 12 = .ok (.iconst 0, 1) := by decide +kernel
theorem dX5_areRight_13 : decode cX5_areRight 13 = .ok (.sipush 255, 3) := by decide +kernel
theorem dX5_areRight_16 : decode cX5_areRight 16 = .ok (.invokestatic 26, 3) := by decide +kernel
theorem dX5_areRight_19 : decode cX5_areRight 19 = .ok (.ifCond .eq 7, 3) := by decide +kernel
theorem dX5_areRight_22 : decode cX5_areRight 22 = .ok (.iconst 1, 1) := by decide +kernel
theorem dX5_areRight_23 : decode cX5_areRight 23 = .ok (.goto 4, 3) := by decide +kernel
theorem dX5_areRight_26 : decode cX5_areRight 26 = .ok (.iconst 0, 1) := by decide +kernel
theorem dX5_areRight_27 : decode cX5_areRight 27 = .ok (.ireturn, 1) := by decide +kernel
theorem dX5_remembers_0 : decode cX5_remembers 0 = .ok (.aload_n 0, 1) := by decide +kernel
theorem dX5_remembers_1 : decode cX5_remembers 1 = .ok (.getfield 30, 3) := by decide +kernel
theorem dX5_remembers_4 : decode cX5_remembers 4 = .ok (.bipush 6, 2) := by decide +kernel
theorem dX5_remembers_6 : decode cX5_remembers 6 = .ok (.if_icmp .ne 43, 3) := by decide +kernel
theorem dX5_remembers_9 : decode cX5_remembers 9 = .ok (.iconst 0, 1) := by decide +kernel
theorem dX5_remembers_10 : decode cX5_remembers 10 = .ok (.istore_n 1, 1) := by decide +kernel
theorem dX5_remembers_11 : decode cX5_remembers 11 = .ok (.iload_n 1, 1) := by decide +kernel
theorem dX5_remembers_12 : decode cX5_remembers 12 = .ok (.sipush 305, 3) := by decide +kernel
theorem dX5_remembers_15 : decode cX5_remembers 15 = .ok (.if_icmp .ge 24, 3) := by decide +kernel
theorem dX5_remembers_18 : decode cX5_remembers 18 = .ok (.aload_n 0, 1) := by decide +kernel
theorem dX5_remembers_19 : decode cX5_remembers 19 = .ok (.getfield 13, 3) := by decide +kernel
theorem dX5_remembers_22 : decode cX5_remembers 22 = .ok (.iload_n 1, 1) := by decide +kernel
theorem dX5_remembers_23 : decode cX5_remembers 23 = .ok (.aload_n 0, 1) := by decide +kernel
theorem dX5_remembers_24 : decode cX5_remembers 24 = .ok (.getfield 13, 3) := by decide +kernel
theorem dX5_remembers_27 : decode cX5_remembers 27 = .ok (.bipush 61, 2) := by decide +kernel
theorem dX5_remembers_29 : decode cX5_remembers 29 = .ok (.iload_n 1, 1) := by decide +kernel
theorem dX5_remembers_30 : decode cX5_remembers 30 = .ok (.iadd, 1) := by decide +kernel
theorem dX5_remembers_31 : decode cX5_remembers 31 = .ok (.iaload, 1) := by decide +kernel
theorem dX5_remembers_32 : decode cX5_remembers 32 = .ok (.iastore, 1) := by decide +kernel
theorem dX5_remembers_33 : decode cX5_remembers 33 = .ok (.iinc 1 1, 3) := by decide +kernel
theorem dX5_remembers_36 : decode cX5_remembers 36 = .ok (.goto (-25), 3) := by decide +kernel
theorem dX5_remembers_39 : decode cX5_remembers 39 = .ok (.aload_n 0, 1) := by decide +kernel
theorem dX5_remembers_40 : decode cX5_remembers 40 = .ok (.dup, 1) := by decide +kernel
theorem dX5_remembers_41 : decode cX5_remembers 41 = .ok (.getfield 30, 3) := by decide +kernel
theorem dX5_remembers_44 : decode cX5_remembers 44 = .ok (.iconst 1, 1) := by decide +kernel
theorem dX5_remembers_45 : decode cX5_remembers 45 = .ok (.isub, 1) := by decide +kernel
theorem dX5_remembers_46 : decode cX5_remembers 46 = .ok (.putfield 30, 3) := by decide +kernel
theorem dX5_remembers_49 : decode cX5_remembers 49 = .ok (.iconst 0, 1) := by decide +kernel
theorem dX5_remembers_50 : decode cX5_remembers 50 = .ok (.istore_n 1, 1) := by decide +kernel
theorem dX5_remembers_51 : decode cX5_remembers 51 = .ok (.iload_n 1, 1) := by decide +kernel
theorem dX5_remembers_52 : decode cX5_remembers 52 = .ok (.bipush 61, 2) := by decide +kernel
theorem dX5_remembers_54 : decode cX5_remembers 54 = .ok (.if_icmp .ge 29, 3) := by decide +kernel
theorem dX5_remembers_57 : decode cX5_remembers 57 = .ok (.aload_n 0, 1) := by decide +kernel
theorem dX5_remembers_58 : decode cX5_remembers 58 = .ok (.getfield 13, 3) := by decide +kernel
theorem dX5_remembers_61 : decode cX5_remembers 61 = .ok (.bipush 61, 2) := by decide +kernel
theorem dX5_remembers_63 : decode cX5_remembers 63 = .ok (.aload_n 0, 1) := by decide +kernel
theorem dX5_remembers_64 : decode cX5_remembers 64 = .ok (.getfield 30, 3) := by decide +kernel
theorem dX5_remembers_67 : decode cX5_remembers 67 = .ok (.imul, 1) := by decide +kernel
theorem dX5_remembers_68 : decode cX5_remembers 68 = .ok (.iload_n 1, 1) := by decide +kernel
theorem dX5_remembers_69 : decode cX5_remembers 69 = .ok (.iadd, 1) := by decide +kernel
theorem dX5_remembers_70 : decode cX5_remembers 70 = .ok (.aload_n 0, 1) := by decide +kernel
theorem dX5_remembers_71 : decode cX5_remembers 71 = .ok (.getfield 7, 3) := by decide +kernel
theorem dX5_remembers_74 : decode cX5_remembers 74 = .ok (.iload_n 1, 1) := by decide +kernel
theorem dX5_remembers_75 : decode cX5_remembers 75 = .ok (.iaload, 1) := by decide +kernel
theorem dX5_remembers_76 : decode cX5_remembers 76 = .ok (.iastore, 1) := by decide +kernel
theorem dX5_remembers_77 : decode cX5_remembers 77 = .ok (.iinc 1 1, 3) := by decide +kernel
theorem dX5_remembers_80 : decode cX5_remembers 80 = .ok (.goto (-29), 3) := by decide +kernel
theorem dX5_remembers_83 : decode cX5_remembers 83 = .ok (.aload_n 0, 1) := by decide +kernel
theorem dX5_remembers_84 : decode cX5_remembers 84 = .ok (.dup, 1) := by decide +kernel
theorem dX5_remembers_85 : decode cX5_remembers 85 = .ok (.getfield 30, 3) := by decide +kernel
theorem dX5_remembers_88 : decode cX5_remembers 88 = .ok (.iconst 1, 1) := by decide +kernel
theorem dX5_remembers_89 : decode cX5_remembers 89 = .ok (.iadd, 1) := by decide +kernel
theorem dX5_remembers_90 : decode cX5_remembers 90 = .ok (.putfield 30, 3) := by decide +kernel
theorem dX5_remembers_93 : decode cX5_remembers 93 = .ok (.return_, 1) := by decide +kernel
theorem dX5_copies_0 : decode cX5_copies 0 = .ok (.iconst 0, 1) := by decide +kernel
theorem dX5_copies_1 : decode cX5_copies 1 = .ok (.istore_n 1, 1) := by decide +kernel
theorem dX5_copies_2 : decode cX5_copies 2 = .ok (.iload_n 1, 1) := by decide +kernel
theorem dX5_copies_3 : decode cX5_copies 3 = .ok (.bipush 61, 2) := by decide +kernel
theorem dX5_copies_5 : decode cX5_copies 5 = .ok (.if_icmp .ge 24, 3) := by decide +kernel
theorem dX5_copies_8 : decode cX5_copies 8 = .ok (.aload_n 0, 1) := by decide +kernel
theorem dX5_copies_9 : decode cX5_copies 9 = .ok (.getfield 7, 3) := by decide +kernel
theorem dX5_copies_12 : decode cX5_copies 12 = .ok (.bipush 61, 2) := by decide +kernel
theorem dX5_copies_14 : decode cX5_copies 14 = .ok (.iload_n 1, 1) := by decide +kernel
theorem dX5_copies_15 : decode cX5_copies 15 = .ok (.iadd, 1) := by decide +kernel
theorem dX5_copies_16 : decode cX5_copies 16 = .ok (.aload_n 0, 1) := by decide +kernel
theorem dX5_copies_17 : decode cX5_copies 17 = .ok (.getfield 7, 3) := by decide +kernel
theorem dX5_copies_20 : decode cX5_copies 20 = .ok (.iload_n 1, 1) := by decide +kernel
theorem dX5_copies_21 : decode cX5_copies 21 = .ok (.iaload, 1) := by decide +kernel
theorem dX5_copies_22 : decode cX5_copies 22 = .ok (.iastore, 1) := by decide +kernel
theorem dX5_copies_23 : decode cX5_copies 23 = .ok (.iinc 1 1, 3) := by decide +kernel
theorem dX5_copies_26 : decode cX5_copies 26 = .ok (.goto (-24), 3) := by decide +kernel
theorem dX5_copies_29 : decode cX5_copies 29 = .ok (.return_, 1) := by decide +kernel
theorem dX5_off_0 : decode cX5_off 0 = .ok (.iload_n 3, 1) := by decide +kernel
theorem dX5_off_1 : decode cX5_off 1 = .ok (.aload_n 0, 1) := by decide +kernel
theorem dX5_off_2 : decode cX5_off 2 = .ok (.getfield 7, 3) := by decide +kernel
theorem dX5_off_5 : decode cX5_off 5 = .ok (.iload_n 1, 1) := by decide +kernel
theorem dX5_off_6 : decode cX5_off 6 = .ok (.bipush 7, 2) := by decide +kernel
theorem dX5_off_8 : decode cX5_off 8 = .ok (.iadd, 1) := by decide +kernel
theorem dX5_off_9 : decode cX5_off 9 = .ok (.iload_n 2, 1) := by decide +kernel
theorem dX5_off_10 : decode cX5_off 10 = .ok (.iadd, 1) := by decide +kernel
theorem dX5_off_11 : decode cX5_off 11 = .ok (.iaload, 1) := by decide +kernel
theorem dX5_off_12 : decode cX5_off 12 = .ok (.bipush 16, 2) := by decide +kernel
theorem dX5_off_14 : decode cX5_off 14 = .ok (.idiv, 1) := by decide +kernel
theorem dX5_off_15 : decode cX5_off 15 = .ok (.isub, 1) := by decide +kernel
theorem dX5_off_16 : decode cX5_off 16 = .ok (.ireturn, 1) := by decide +kernel
theorem dX5_far_0 : decode cX5_far 0 = .ok (.aload_n 0, 1) := by decide +kernel
theorem dX5_far_1 : decode cX5_far 1 = .ok (.iload_n 1, 1) := by decide +kernel
theorem dX5_far_2 : decode cX5_far 2 = .ok (.iconst 0, 1) := by decide +kernel
theorem dX5_far_3 : decode cX5_far 3 = .ok (.iload_n 2, 1) := by decide +kernel
theorem dX5_far_4 : decode cX5_far 4 = .ok (.invokevirtual 34, 3) := by decide +kernel
theorem dX5_far_7 : decode cX5_far 7 = .ok (.invokestatic 38, 3) := by decide +kernel
theorem dX5_far_10 : decode cX5_far 10 = .ok (.aload_n 0, 1) := by decide +kernel
theorem dX5_far_11 : decode cX5_far 11 = .ok (.iload_n 1, 1) := by decide +kernel
theorem dX5_far_12 : decode cX5_far 12 = .ok (.iconst 1, 1) := by decide +kernel
theorem dX5_far_13 : decode cX5_far 13 = .ok (.iload_n 3, 1) := by decide +kernel
theorem dX5_far_14 : decode cX5_far 14 = .ok (.invokevirtual 34, 3) := by decide +kernel
theorem dX5_far_17 : decode cX5_far 17 = .ok (.invokestatic 38, 3) := by decide +kernel
theorem dX5_far_20 : decode cX5_far 20 = .ok (.invokestatic 42, 3) := by decide +kernel
theorem dX5_far_23 : decode cX5_far 23 = .ok (.ireturn, 1) := by decide +kernel
theorem dX5_isTelling_0 : decode cX5_isTelling 0 = .ok (.aload_n 0, 1) := by decide +kernel
theorem dX5_isTelling_1 : decode cX5_isTelling 1 = .ok (.getfield 7, 3) := by decide +kernel
theorem dX5_isTelling_4 : decode cX5_isTelling 4 = .ok (.iload_n 1, 1) := by decide +kernel
theorem dX5_isTelling_5 : decode cX5_isTelling 5 = .ok (.bipush 14, 2) := by decide +kernel
theorem dX5_isTelling_7 : decode cX5_isTelling 7 = .ok (.iadd, 1) := by decide +kernel
theorem dX5_isTelling_8 : decode cX5_isTelling 8 = .ok (.iaload, 1) := by decide +kernel
theorem dX5_isTelling_9 : decode cX5_isTelling 9 = .ok (.ifCond .ne 17, 3) := by decide +kernel
theorem dX5_isTelling_12 : decode cX5_isTelling 12 = .ok (.aload_n 0, 1) := by decide +kernel
theorem dX5_isTelling_13 : decode cX5_isTelling 13 = .ok (.getfield 7, 3) := by decide +kernel
theorem dX5_isTelling_16 : decode cX5_isTelling 16 = .ok (.iload_n 1, 1) := by decide +kernel
theorem dX5_isTelling_17 : decode cX5_isTelling 17 = .ok (.bipush 14, 2) := by decide +kernel
theorem dX5_isTelling_19 : decode cX5_isTelling 19 = .ok (.iadd, 1) := by decide +kernel
theorem dX5_isTelling_20 : decode cX5_isTelling 20 = .ok (.iconst 1, 1) := by decide +kernel
theorem dX5_isTelling_21 : decode cX5_isTelling 21 = .ok (.iadd, 1) := by decide +kernel
theorem dX5_isTelling_22 : decode cX5_isTelling 22 = .ok (.iaload, 1) := by decide +kernel
theorem dX5_isTelling_23 : decode cX5_isTelling 23 = .ok (.ifCond .eq 7, 3) := by decide +kernel
theorem dX5_isTelling_26 : decode cX5_isTelling 26 = .ok (.iconst 1, 1) := by decide +kernel
theorem dX5_isTelling_27 : decode cX5_isTelling 27 = .ok (.goto 4, 3) := by decide +kernel
theorem dX5_isTelling_30 : decode cX5_isTelling 30 = .ok (.iconst 0, 1) := by decide +kernel
theorem dX5_isTelling_31 : decode cX5_isTelling 31 = .ok (.ireturn, 1) := by decide +kernel
theorem dX5_learns_0 : decode cX5_learns 0 = .ok (.aload_n 0, 1) := by decide +kernel
theorem dX5_learns_1 : decode cX5_learns 1 = .ok (.getfield 7, 3) := by decide +kernel
theorem dX5_learns_4 : decode cX5_learns 4 = .ok (.iload_n 1, 1) := by decide +kernel
theorem dX5_learns_5 : decode cX5_learns 5 = .ok (.bipush 7, 2) := by decide +kernel
theorem dX5_learns_7 : decode cX5_learns 7 = .ok (.iadd, 1) := by decide +kernel
theorem dX5_learns_8 : decode cX5_learns 8 = .ok (.iload_n 2, 1) := by decide +kernel
theorem dX5_learns_9 : decode cX5_learns 9 = .ok (.iadd, 1) := by decide +kernel
theorem dX5_learns_10 : decode cX5_learns 10 = .ok (.dup2, 1) := by decide +kernel
theorem dX5_learns_11 : decode cX5_learns 11 = .ok (.iaload, 1) := by decide +kernel
theorem dX5_learns_12 : decode cX5_learns 12 = .ok (.bipush 16, 2) := by decide +kernel
theorem dX5_learns_14 : decode cX5_learns 14 = .ok (.iload_n 3, 1) := by decide +kernel
theorem dX5_learns_15 : decode cX5_learns 15 = .ok (.imul, 1) := by decide +kernel
theorem dX5_learns_16 : decode cX5_learns 16 = .ok (.aload_n 0, 1) := by decide +kernel
theorem dX5_learns_17 : decode cX5_learns 17 = .ok (.getfield 7, 3) := by decide +kernel
theorem dX5_learns_20 : decode cX5_learns 20 = .ok (.iload_n 1, 1) := by decide +kernel
theorem dX5_learns_21 : decode cX5_learns 21 = .ok (.bipush 7, 2) := by decide +kernel
theorem dX5_learns_23 : decode cX5_learns 23 = .ok (.iadd, 1) := by decide +kernel
theorem dX5_learns_24 : decode cX5_learns 24 = .ok (.iload_n 2, 1) := by decide +kernel
theorem dX5_learns_25 : decode cX5_learns 25 = .ok (.iadd, 1) := by decide +kernel
theorem dX5_learns_26 : decode cX5_learns 26 = .ok (.iaload, 1) := by decide +kernel
theorem dX5_learns_27 : decode cX5_learns 27 = .ok (.isub, 1) := by decide +kernel
theorem dX5_learns_28 : decode cX5_learns 28 = .ok (.aload_n 0, 1) := by decide +kernel
theorem dX5_learns_29 : decode cX5_learns 29 = .ok (.getfield 7, 3) := by decide +kernel
theorem dX5_learns_32 : decode cX5_learns 32 = .ok (.iload_n 1, 1) := by decide +kernel
theorem dX5_learns_33 : decode cX5_learns 33 = .ok (.iconst 0, 1) := by decide +kernel
theorem dX5_learns_34 : decode cX5_learns 34 = .ok (.iadd, 1) := by decide +kernel
theorem dX5_learns_35 : decode cX5_learns 35 = .ok (.iaload, 1) := by decide +kernel
theorem dX5_learns_36 : decode cX5_learns 36 = .ok (.idiv, 1) := by decide +kernel
theorem dX5_learns_37 : decode cX5_learns 37 = .ok (.iadd, 1) := by decide +kernel
theorem dX5_learns_38 : decode cX5_learns 38 = .ok (.iastore, 1) := by decide +kernel
theorem dX5_learns_39 : decode cX5_learns 39 = .ok (.return_, 1) := by decide +kernel
theorem dX5_rests_0 : decode cX5_rests 0 = .ok (.aload_n 0, 1) := by decide +kernel
theorem dX5_rests_1 : decode cX5_rests 1 = .ok (.iload_n 1, 1) := by decide +kernel
theorem dX5_rests_2 : decode cX5_rests 2 = .ok (.invokevirtual 46, 3) := by decide +kernel
theorem dX5_rests_5 : decode cX5_rests 5 = .ok (.ifCond .eq 16, 3) := by decide +kernel
theorem dX5_rests_8 : decode cX5_rests 8 = .ok (.aload_n 0, 1) := by decide +kernel
theorem dX5_rests_9 : decode cX5_rests 9 = .ok (.getfield 7, 3) := by decide +kernel
theorem dX5_rests_12 : decode cX5_rests 12 = .ok (.iload_n 1, 1) := by decide +kernel
theorem dX5_rests_13 : decode cX5_rests 13 = .ok (.bipush 16, 2) := by decide +kernel
theorem dX5_rests_15 : decode cX5_rests 15 = .ok (.iadd, 1) := by decide +kernel
theorem dX5_rests_16 : decode cX5_rests 16 = .ok (.dup2, 1) := by decide +kernel
theorem dX5_rests_17 : decode cX5_rests 17 = .ok (.iaload, 1) := by decide +kernel
theorem dX5_rests_18 : decode cX5_rests 18 = .ok (.iconst 1, 1) := by decide +kernel
theorem dX5_rests_19 : decode cX5_rests 19 = .ok (.iadd, 1) := by decide +kernel
theorem dX5_rests_20 : decode cX5_rests 20 = .ok (.iastore, 1) := by decide +kernel
theorem dX5_rests_21 : decode cX5_rests 21 = .ok (.aload_n 0, 1) := by decide +kernel
theorem dX5_rests_22 : decode cX5_rests 22 = .ok (.getfield 7, 3) := by decide +kernel
theorem dX5_rests_25 : decode cX5_rests 25 = .ok (.iload_n 1, 1) := by decide +kernel
theorem dX5_rests_26 : decode cX5_rests 26 = .ok (.bipush 14, 2) := by decide +kernel
theorem dX5_rests_28 : decode cX5_rests 28 = .ok (.iadd, 1) := by decide +kernel
theorem dX5_rests_29 : decode cX5_rests 29 = .ok (.iconst 0, 1) := by decide +kernel
theorem dX5_rests_30 : decode cX5_rests 30 = .ok (.iastore, 1) := by decide +kernel
theorem dX5_rests_31 : decode cX5_rests 31 = .ok (.aload_n 0, 1) := by decide +kernel
theorem dX5_rests_32 : decode cX5_rests 32 = .ok (.getfield 7, 3) := by decide +kernel
theorem dX5_rests_35 : decode cX5_rests 35 = .ok (.iload_n 1, 1) := by decide +kernel
theorem dX5_rests_36 : decode cX5_rests 36 = .ok (.bipush 14, 2) := by decide +kernel
theorem dX5_rests_38 : decode cX5_rests 38 = .ok (.iadd, 1) := by decide +kernel
theorem dX5_rests_39 : decode cX5_rests 39 = .ok (.iconst 1, 1) := by decide +kernel
theorem dX5_rests_40 : decode cX5_rests 40 = .ok (.iadd, 1) := by decide +kernel
theorem dX5_rests_41 : decode cX5_rests 41 = .ok (.iconst 0, 1) := by decide +kernel
theorem dX5_rests_42 : decode cX5_rests 42 = .ok (.iastore, 1) := by decide +kernel
theorem dX5_rests_43 : decode cX5_rests 43 = .ok (.aload_n 0, 1) := by decide +kernel
theorem dX5_rests_44 : decode cX5_rests 44 = .ok (.getfield 7, 3) := by decide +kernel
theorem dX5_rests_47 : decode cX5_rests 47 = .ok (.iload_n 1, 1) := by decide +kernel
theorem dX5_rests_48 : decode cX5_rests 48 = .ok (.bipush 13, 2) := by decide +kernel
theorem dX5_rests_50 : decode cX5_rests 50 = .ok (.iadd, 1) := by decide +kernel
theorem dX5_rests_51 : decode cX5_rests 51 = .ok (.iaload, 1) := by decide +kernel
theorem dX5_rests_52 : decode cX5_rests 52 = .ok (.ifCond .le 17, 3) := by decide +kernel
theorem dX5_rests_55 : decode cX5_rests 55 = .ok (.aload_n 0, 1) := by decide +kernel
theorem dX5_rests_56 : decode cX5_rests 56 = .ok (.getfield 7, 3) := by decide +kernel
theorem dX5_rests_59 : decode cX5_rests 59 = .ok (.iload_n 1, 1) := by decide +kernel
theorem dX5_rests_60 : decode cX5_rests 60 = .ok (.bipush 20, 2) := by decide +kernel
theorem dX5_rests_62 : decode cX5_rests 62 = .ok (.iadd, 1) := by decide +kernel
theorem dX5_rests_63 : decode cX5_rests 63 = .ok (.dup2, 1) := by decide +kernel
theorem dX5_rests_64 : decode cX5_rests 64 = .ok (.iaload, 1) := by decide +kernel
theorem dX5_rests_65 : decode cX5_rests 65 = .ok (.iconst 1, 1) := by decide +kernel
theorem dX5_rests_66 : decode cX5_rests 66 = .ok (.iadd, 1) := by decide +kernel
theorem dX5_rests_67 : decode cX5_rests 67 = .ok (.iastore, 1) := by decide +kernel
theorem dX5_rests_68 : decode cX5_rests 68 = .ok (.return_, 1) := by decide +kernel
theorem dX5_rests_69 : decode cX5_rests 69 = .ok (.aload_n 0, 1) := by decide +kernel
theorem dX5_rests_70 : decode cX5_rests 70 = .ok (.iload_n 1, 1) := by decide +kernel
theorem dX5_rests_71 : decode cX5_rests 71 = .ok (.iload_n 2, 1) := by decide +kernel
theorem dX5_rests_72 : decode cX5_rests 72 = .ok (.iload_n 3, 1) := by decide +kernel
theorem dX5_rests_73 : decode cX5_rests 73 = .ok (.invokevirtual 50, 3) := by decide +kernel
theorem dX5_rests_76 : decode cX5_rests 76 = .ok (.istore 4, 2) := by decide +kernel
theorem dX5_rests_78 : decode cX5_rests 78 = .ok (.aload_n 0, 1) := by decide +kernel
theorem dX5_rests_79 : decode cX5_rests 79 = .ok (.getfield 7, 3) := by decide +kernel
theorem dX5_rests_82 : decode cX5_rests 82 = .ok (.iload_n 1, 1) := by decide +kernel
theorem dX5_rests_83 : decode cX5_rests 83 = .ok (.bipush 9, 2) := by decide +kernel
theorem dX5_rests_85 : decode cX5_rests 85 = .ok (.iadd, 1) := by decide +kernel
theorem dX5_rests_86 : decode cX5_rests 86 = .ok (.iaload, 1) := by decide +kernel
theorem dX5_rests_87 : decode cX5_rests 87 = .ok (.istore 5, 2) := by decide +kernel
theorem dX5_rests_89 : decode cX5_rests 89 = .ok (.iconst 2, 1) := by decide +kernel
theorem dX5_rests_90 : decode cX5_rests 90 = .ok (.iload 4, 2) := by decide +kernel
theorem dX5_rests_92 : decode cX5_rests 92 = .ok (.imul, 1) := by decide +kernel
theorem dX5_rests_93 : decode cX5_rests 93 = .ok (.iload 5, 2) := by decide +kernel
theorem dX5_rests_95 : decode cX5_rests 95 = .ok (.if_icmp .le 38, 3) := by decide +kernel
theorem dX5_rests_98 : decode cX5_rests 98 = .ok (.iload 5, 2) := by decide +kernel
theorem dX5_rests_100 : decode cX5_rests 100 = .ok (.aload_n 0, 1) := by decide +kernel
theorem dX5_rests_101 : decode cX5_rests 101 = .ok (.getfield 7, 3) := by decide +kernel
theorem dX5_rests_104 : decode cX5_rests 104 = .ok (.iload_n 1, 1) := by decide +kernel
theorem dX5_rests_105 : decode cX5_rests 105 = .ok (.iconst 1, 1) := by decide +kernel
theorem dX5_rests_106 : decode cX5_rests 106 = .ok (.iadd, 1) := by decide +kernel
theorem dX5_rests_107 : decode cX5_rests 107 = .ok (.iaload, 1) := by decide +kernel
theorem dX5_rests_108 : decode cX5_rests 108 = .ok (.aload_n 0, 1) := by decide +kernel
theorem dX5_rests_109 : decode cX5_rests 109 = .ok (.getfield 7, 3) := by decide +kernel
theorem dX5_rests_112 : decode cX5_rests 112 = .ok (.iload_n 1, 1) := by decide +kernel
theorem dX5_rests_113 : decode cX5_rests 113 = .ok (.iconst 2, 1) := by decide +kernel
theorem dX5_rests_114 : decode cX5_rests 114 = .ok (.iadd, 1) := by decide +kernel
theorem dX5_rests_115 : decode cX5_rests 115 = .ok (.iaload, 1) := by decide +kernel
theorem dX5_rests_116 : decode cX5_rests 116 = .ok (.iadd, 1) := by decide +kernel
theorem dX5_rests_117 : decode cX5_rests 117 = .ok (.if_icmp .ge 16, 3) := by decide +kernel
theorem dX5_rests_120 : decode cX5_rests 120 = .ok (.aload_n 0, 1) := by decide +kernel
theorem dX5_rests_121 : decode cX5_rests 121 = .ok (.getfield 7, 3) := by decide +kernel
theorem dX5_rests_124 : decode cX5_rests 124 = .ok (.iload_n 1, 1) := by decide +kernel
theorem dX5_rests_125 : decode cX5_rests 125 = .ok (.bipush 9, 2) := by decide +kernel
theorem dX5_rests_127 : decode cX5_rests 127 = .ok (.iadd, 1) := by decide +kernel
theorem dX5_rests_128 : decode cX5_rests 128 = .ok (.dup2, 1) := by decide +kernel
theorem dX5_rests_129 : decode cX5_rests 129 = .ok (.iaload, 1) := by decide +kernel
theorem dX5_rests_130 : decode cX5_rests 130 = .ok (.iconst 1, 1) := by decide +kernel
theorem dX5_rests_131 : decode cX5_rests 131 = .ok (.iadd, 1) := by decide +kernel
theorem dX5_rests_132 : decode cX5_rests 132 = .ok (.iastore, 1) := by decide +kernel
theorem dX5_rests_133 : decode cX5_rests 133 = .ok (.iconst 4, 1) := by decide +kernel
theorem dX5_rests_134 : decode cX5_rests 134 = .ok (.iload 4, 2) := by decide +kernel
theorem dX5_rests_136 : decode cX5_rests 136 = .ok (.imul, 1) := by decide +kernel
theorem dX5_rests_137 : decode cX5_rests 137 = .ok (.iload 5, 2) := by decide +kernel
theorem dX5_rests_139 : decode cX5_rests 139 = .ok (.if_icmp .gt 29, 3) := by decide +kernel
theorem dX5_rests_142 : decode cX5_rests 142 = .ok (.iload 5, 2) := by decide +kernel
theorem dX5_rests_144 : decode cX5_rests 144 = .ok (.aload_n 0, 1) := by decide +kernel
theorem dX5_rests_145 : decode cX5_rests 145 = .ok (.getfield 7, 3) := by decide +kernel
theorem dX5_rests_148 : decode cX5_rests 148 = .ok (.iload_n 1, 1) := by decide +kernel
theorem dX5_rests_149 : decode cX5_rests 149 = .ok (.iconst 1, 1) := by decide +kernel
theorem dX5_rests_150 : decode cX5_rests 150 = .ok (.iadd, 1) := by decide +kernel
theorem dX5_rests_151 : decode cX5_rests 151 = .ok (.iaload, 1) := by decide +kernel
theorem dX5_rests_152 : decode cX5_rests 152 = .ok (.if_icmp .le 16, 3) := by decide +kernel
theorem dX5_rests_155 : decode cX5_rests 155 = .ok (.aload_n 0, 1) := by decide +kernel
theorem dX5_rests_156 : decode cX5_rests 156 = .ok (.getfield 7, 3) := by decide +kernel
theorem dX5_rests_159 : decode cX5_rests 159 = .ok (.iload_n 1, 1) := by decide +kernel
theorem dX5_rests_160 : decode cX5_rests 160 = .ok (.bipush 9, 2) := by decide +kernel
theorem dX5_rests_162 : decode cX5_rests 162 = .ok (.iadd, 1) := by decide +kernel
theorem dX5_rests_163 : decode cX5_rests 163 = .ok (.dup2, 1) := by decide +kernel
theorem dX5_rests_164 : decode cX5_rests 164 = .ok (.iaload, 1) := by decide +kernel
theorem dX5_rests_165 : decode cX5_rests 165 = .ok (.iconst 1, 1) := by decide +kernel
theorem dX5_rests_166 : decode cX5_rests 166 = .ok (.isub, 1) := by decide +kernel
theorem dX5_rests_167 : decode cX5_rests 167 = .ok (.iastore, 1) := by decide +kernel
theorem dX5_rests_168 : decode cX5_rests 168 = .ok (.aload_n 0, 1) := by decide +kernel
theorem dX5_rests_169 : decode cX5_rests 169 = .ok (.iload_n 1, 1) := by decide +kernel
theorem dX5_rests_170 : decode cX5_rests 170 = .ok (.iconst 0, 1) := by decide +kernel
theorem dX5_rests_171 : decode cX5_rests 171 = .ok (.iload_n 2, 1) := by decide +kernel
theorem dX5_rests_172 : decode cX5_rests 172 = .ok (.invokevirtual 53, 3) := by decide +kernel
theorem dX5_rests_175 : decode cX5_rests 175 = .ok (.aload_n 0, 1) := by decide +kernel
theorem dX5_rests_176 : decode cX5_rests 176 = .ok (.iload_n 1, 1) := by decide +kernel
theorem dX5_rests_177 : decode cX5_rests 177 = .ok (.iconst 1, 1) := by decide +kernel
theorem dX5_rests_178 : decode cX5_rests 178 = .ok (.iload_n 3, 1) := by decide +kernel
theorem dX5_rests_179 : decode cX5_rests 179 = .ok (.invokevirtual 53, 3) := by decide +kernel
theorem dX5_rests_182 : decode cX5_rests 182 = .ok (.return_, 1) := by decide +kernel
theorem dX5_axis_0 : decode cX5_axis 0 = .ok (.aload_n 0, 1) := by decide +kernel
theorem dX5_axis_1 : decode cX5_axis 1 = .ok (.getfield 7, 3) := by decide +kernel
theorem dX5_axis_4 : decode cX5_axis 4 = .ok (.iload_n 1, 1) := by decide +kernel
theorem dX5_axis_5 : decode cX5_axis 5 = .ok (.bipush 9, 2) := by decide +kernel
theorem dX5_axis_7 : decode cX5_axis 7 = .ok (.iadd, 1) := by decide +kernel
theorem dX5_axis_8 : decode cX5_axis 8 = .ok (.iaload, 1) := by decide +kernel
theorem dX5_axis_9 : decode cX5_axis 9 = .ok (.istore_n 3, 1) := by decide +kernel
theorem dX5_axis_10 : decode cX5_axis 10 = .ok (.iload_n 2, 1) := by decide +kernel
theorem dX5_axis_11 : decode cX5_axis 11 = .ok (.invokestatic 38, 3) := by decide +kernel
theorem dX5_axis_14 : decode cX5_axis 14 = .ok (.iload_n 3, 1) := by decide +kernel
theorem dX5_axis_15 : decode cX5_axis 15 = .ok (.if_icmp .gt 5, 3) := by decide +kernel
theorem dX5_axis_18 : decode cX5_axis 18 = .ok (.iconst 0, 1) := by decide +kernel
theorem dX5_axis_19 : decode cX5_axis 19 = .ok (.ireturn, 1) := by decide +kernel
theorem dX5_axis_20 : decode cX5_axis 20 = .ok (.iload_n 2, 1) := by decide +kernel
theorem dX5_axis_21 : decode cX5_axis 21 = .ok (.invokestatic 38, 3) := by decide +kernel
theorem dX5_axis_24 : decode cX5_axis 24 = .ok (.iload_n 3, 1) := by decide +kernel
theorem dX5_axis_25 : decode cX5_axis 25 = .ok (.isub, 1) := by decide +kernel
theorem dX5_axis_26 : decode cX5_axis 26 = .ok (.bipush 100, 2) := by decide +kernel
theorem dX5_axis_28 : decode cX5_axis 28 = .ok (.imul, 1) := by decide +kernel
theorem dX5_axis_29 : decode cX5_axis 29 = .ok (.aload_n 0, 1) := by decide +kernel
theorem dX5_axis_30 : decode cX5_axis 30 = .ok (.getfield 7, 3) := by decide +kernel
theorem dX5_axis_33 : decode cX5_axis 33 = .ok (.iload_n 1, 1) := by decide +kernel
theorem dX5_axis_34 : decode cX5_axis 34 = .ok (.iconst 3, 1) := by decide +kernel
theorem dX5_axis_35 : decode cX5_axis 35 = .ok (.iadd, 1) := by decide +kernel
theorem dX5_axis_36 : decode cX5_axis 36 = .ok (.iaload, 1) := by decide +kernel
theorem dX5_axis_37 : decode cX5_axis 37 = .ok (.iload_n 3, 1) := by decide +kernel
theorem dX5_axis_38 : decode cX5_axis 38 = .ok (.isub, 1) := by decide +kernel
theorem dX5_axis_39 : decode cX5_axis 39 = .ok (.idiv, 1) := by decide +kernel
theorem dX5_axis_40 : decode cX5_axis 40 = .ok (.istore 4, 2) := by decide +kernel
theorem dX5_axis_42 : decode cX5_axis 42 = .ok (.iload 4, 2) := by decide +kernel
theorem dX5_axis_44 : decode cX5_axis 44 = .ok (.bipush 100, 2) := by decide +kernel
theorem dX5_axis_46 : decode cX5_axis 46 = .ok (.if_icmp .le 8, 3) := by decide +kernel
theorem dX5_axis_49 : decode cX5_axis 49 = .ok (.bipush 100, 2) := by decide +kernel
theorem dX5_axis_51 : decode cX5_axis 51 = .ok (.goto 5, 3) := by decide +kernel
theorem dX5_axis_54 : decode cX5_axis 54 = .ok (.iload 4, 2) := by decide +kernel
theorem dX5_axis_56 : decode cX5_axis 56 = .ok (.istore 4, 2) := by decide +kernel
theorem dX5_axis_58 : decode cX5_axis 58 = .ok (.iload_n 2, 1) := by decide +kernel
theorem dX5_axis_59 : decode cX5_axis 59 = .ok (.ifCond .ge 9, 3) := by decide +kernel
theorem dX5_axis_62 : decode cX5_axis 62 = .ok (.iload 4, 2) := by decide +kernel
theorem dX5_axis_64 : decode cX5_axis 64 = .ok (.ineg, 1) := by decide +kernel
theorem dX5_axis_65 : decode cX5_axis 65 = .ok (.goto 5, 3) := by decide +kernel
theorem dX5_axis_68 : decode cX5_axis 68 = .ok (.iload 4, 2) := by decide +kernel
theorem dX5_axis_70 : decode cX5_axis 70 = .ok (.ireturn, 1) := by decide +kernel
theorem dX5_tells_0 : decode cX5_tells 0 = .ok (.aload_n 0, 1) := by decide +kernel
theorem dX5_tells_1 : decode cX5_tells 1 = .ok (.iload_n 1, 1) := by decide +kernel
theorem dX5_tells_2 : decode cX5_tells 2 = .ok (.aload_n 0, 1) := by decide +kernel
theorem dX5_tells_3 : decode cX5_tells 3 = .ok (.iload_n 1, 1) := by decide +kernel
theorem dX5_tells_4 : decode cX5_tells 4 = .ok (.iconst 0, 1) := by decide +kernel
theorem dX5_tells_5 : decode cX5_tells 5 = .ok (.iload_n 2, 1) := by decide +kernel
theorem dX5_tells_6 : decode cX5_tells 6 = .ok (.invokevirtual 34, 3) := by decide +kernel
theorem dX5_tells_9 : decode cX5_tells 9 = .ok (.invokevirtual 57, 3) := by decide +kernel
theorem dX5_tells_12 : decode cX5_tells 12 = .ok (.istore 4, 2) := by decide +kernel
theorem dX5_tells_14 : decode cX5_tells 14 = .ok (.aload_n 0, 1) := by decide +kernel
theorem dX5_tells_15 : decode cX5_tells 15 = .ok (.iload_n 1, 1) := by decide +kernel
theorem dX5_tells_16 : decode cX5_tells 16 = .ok (.aload_n 0, 1) := by decide +kernel
theorem dX5_tells_17 : decode cX5_tells 17 = .ok (.iload_n 1, 1) := by decide +kernel
theorem dX5_tells_18 : decode cX5_tells 18 = .ok (.iconst 1, 1) := by decide +kernel
theorem dX5_tells_19 : decode cX5_tells 19 = .ok (.iload_n 3, 1) := by decide +kernel
theorem dX5_tells_20 : decode cX5_tells 20 = .ok (.invokevirtual 34, 3) := by decide +kernel
theorem dX5_tells_23 : decode cX5_tells 23 = .ok (.invokevirtual 57, 3) := by decide +kernel
theorem dX5_tells_26 : decode cX5_tells 26 = .ok (.istore 5, 2) := by decide +kernel
theorem dX5_tells_28 : decode cX5_tells 28 = .ok (.iload 4, 2) := by decide +kernel
theorem dX5_tells_30 : decode cX5_tells 30 = .ok (.invokestatic 38, 3) := by decide +kernel
theorem dX5_tells_33 : decode cX5_tells 33 = .ok (.iload 5, 2) := by decide +kernel
theorem dX5_tells_35 : decode cX5_tells 35 = .ok (.invokestatic 38, 3) := by decide +kernel
theorem dX5_tells_38 : decode cX5_tells 38 = .ok (.iadd, 1) := by decide +kernel
theorem dX5_tells_39 : decode cX5_tells 39 = .ok (.istore 6, 2) := by decide +kernel
theorem dX5_tells_41 : decode cX5_tells 41 = .ok (.iload 6, 2) := by decide +kernel
theorem dX5_tells_43 : decode cX5_tells 43 = .ok (.aload_n 0, 1) := by decide +kernel
theorem dX5_tells_44 : decode cX5_tells 44 = .ok (.getfield 7, 3) := by decide +kernel
theorem dX5_tells_47 : decode cX5_tells 47 = .ok (.iload_n 1, 1) := by decide +kernel
theorem dX5_tells_48 : decode cX5_tells 48 = .ok (.iconst 4, 1) := by decide +kernel
theorem dX5_tells_49 : decode cX5_tells 49 = .ok (.iadd, 1) := by decide +kernel
theorem dX5_tells_50 : decode cX5_tells 50 = .ok (.iaload, 1) := by decide +kernel
theorem dX5_tells_51 : decode cX5_tells 51 = .ok (.if_icmp .le 7, 3) := by decide +kernel
theorem dX5_tells_54 : decode cX5_tells 54 = .ok (.iconst 1, 1) := by decide +kernel
theorem dX5_tells_55 : decode cX5_tells 55 = .ok (.goto 4, 3) := by decide +kernel
theorem dX5_tells_58 : decode cX5_tells 58 = .ok (.iconst 0, 1) := by decide +kernel
theorem dX5_tells_59 : decode cX5_tells 59 = .ok (.istore 7, 2) := by decide +kernel
theorem dX5_tells_61 : decode cX5_tells 61 = .ok (.aload_n 0, 1) := by decide +kernel
theorem dX5_tells_62 : decode cX5_tells 62 = .ok (.getfield 7, 3) := by decide +kernel
theorem dX5_tells_65 : decode cX5_tells 65 = .ok (.iload_n 1, 1) := by decide +kernel
theorem dX5_tells_66 : decode cX5_tells 66 = .ok (.bipush 14, 2) := by decide +kernel
theorem dX5_tells_68 : decode cX5_tells 68 = .ok (.iadd, 1) := by decide +kernel
theorem dX5_tells_69 : decode cX5_tells 69 = .ok (.iload 7, 2) := by decide +kernel
theorem dX5_tells_71 : decode cX5_tells 71 = .ok (.ifCond .eq 20, 3) := by decide +kernel
theorem dX5_tells_74 : decode cX5_tells 74 = .ok (.iload 4, 2) := by decide +kernel
theorem dX5_tells_76 : decode cX5_tells 76 = .ok (.aload_n 0, 1) := by decide +kernel
theorem dX5_tells_77 : decode cX5_tells 77 = .ok (.getfield 7, 3) := by decide +kernel
theorem dX5_tells_80 : decode cX5_tells 80 = .ok (.iload_n 1, 1) := by decide +kernel
theorem dX5_tells_81 : decode cX5_tells 81 = .ok (.iconst 4, 1) := by decide +kernel
theorem dX5_tells_82 : decode cX5_tells 82 = .ok (.iadd, 1) := by decide +kernel
theorem dX5_tells_83 : decode cX5_tells 83 = .ok (.iaload, 1) := by decide +kernel
theorem dX5_tells_84 : decode cX5_tells 84 = .ok (.imul, 1) := by decide +kernel
theorem dX5_tells_85 : decode cX5_tells 85 = .ok (.iload 6, 2) := by decide +kernel
theorem dX5_tells_87 : decode cX5_tells 87 = .ok (.idiv, 1) := by decide +kernel
theorem dX5_tells_88 : decode cX5_tells 88 = .ok (.goto 5, 3) := by decide +kernel
theorem dX5_tells_91 : decode cX5_tells 91 = .ok (.iload 4, 2) := by decide +kernel
theorem dX5_tells_93 : decode cX5_tells 93 = .ok (.iastore, 1) := by decide +kernel
theorem dX5_tells_94 : decode cX5_tells 94 = .ok (.aload_n 0, 1) := by decide +kernel
theorem dX5_tells_95 : decode cX5_tells 95 = .ok (.getfield 7, 3) := by decide +kernel
theorem dX5_tells_98 : decode cX5_tells 98 = .ok (.iload_n 1, 1) := by decide +kernel
theorem dX5_tells_99 : decode cX5_tells 99 = .ok (.bipush 14, 2) := by decide +kernel
theorem dX5_tells_101 : decode cX5_tells 101 = .ok (.iadd, 1) := by decide +kernel
theorem dX5_tells_102 : decode cX5_tells 102 = .ok (.iconst 1, 1) := by decide +kernel
theorem dX5_tells_103 : decode cX5_tells 103 = .ok (.iadd, 1) := by decide +kernel
theorem dX5_tells_104 : decode cX5_tells 104 = .ok (.iload 7, 2) := by decide +kernel
theorem dX5_tells_106 : decode cX5_tells 106 = .ok (.ifCond .eq 20, 3) := by decide +kernel
theorem dX5_tells_109 : decode cX5_tells 109 = .ok (.iload 5, 2) := by decide +kernel
theorem dX5_tells_111 : decode cX5_tells 111 = .ok (.aload_n 0, 1) := by decide +kernel
theorem dX5_tells_112 : decode cX5_tells 112 = .ok (.getfield 7, 3) := by decide +kernel
theorem dX5_tells_115 : decode cX5_tells 115 = .ok (.iload_n 1, 1) := by decide +kernel
theorem dX5_tells_116 : decode cX5_tells 116 = .ok (.iconst 4, 1) := by decide +kernel
theorem dX5_tells_117 : decode cX5_tells 117 = .ok (.iadd, 1) := by decide +kernel
theorem dX5_tells_118 : decode cX5_tells 118 = .ok (.iaload, 1) := by decide +kernel
theorem dX5_tells_119 : decode cX5_tells 119 = .ok (.imul, 1) := by decide +kernel
theorem dX5_tells_120 : decode cX5_tells 120 = .ok (.iload 6, 2) := by decide +kernel
theorem dX5_tells_122 : decode cX5_tells 122 = .ok (.idiv, 1) := by decide +kernel
theorem dX5_tells_123 : decode cX5_tells 123 = .ok (.goto 5, 3) := by decide +kernel
theorem dX5_tells_126 : decode cX5_tells 126 = .ok (.iload 5, 2) := by decide +kernel
theorem dX5_tells_128 : decode cX5_tells 128 = .ok (.iastore, 1) := by decide +kernel
theorem dX5_tells_129 : decode cX5_tells 129 = .ok (.aload_n 0, 1) := by decide +kernel
theorem dX5_tells_130 : decode cX5_tells 130 = .ok (.getfield 7, 3) := by decide +kernel
theorem dX5_tells_133 : decode cX5_tells 133 = .ok (.iload_n 1, 1) := by decide +kernel
theorem dX5_tells_134 : decode cX5_tells 134 = .ok (.bipush 13, 2) := by decide +kernel
theorem dX5_tells_136 : decode cX5_tells 136 = .ok (.iadd, 1) := by decide +kernel
theorem dX5_tells_137 : decode cX5_tells 137 = .ok (.iaload, 1) := by decide +kernel
theorem dX5_tells_138 : decode cX5_tells 138 = .ok (.ifCond .ne 49, 3) := by decide +kernel
theorem dX5_tells_141 : decode cX5_tells 141 = .ok (.aload_n 0, 1) := by decide +kernel
theorem dX5_tells_142 : decode cX5_tells 142 = .ok (.getfield 7, 3) := by decide +kernel
theorem dX5_tells_145 : decode cX5_tells 145 = .ok (.iload_n 1, 1) := by decide +kernel
theorem dX5_tells_146 : decode cX5_tells 146 = .ok (.bipush 12, 2) := by decide +kernel
theorem dX5_tells_148 : decode cX5_tells 148 = .ok (.iadd, 1) := by decide +kernel
theorem dX5_tells_149 : decode cX5_tells 149 = .ok (.iaload, 1) := by decide +kernel
theorem dX5_tells_150 : decode cX5_tells 150 = .ok (.aload_n 0, 1) := by decide +kernel
theorem dX5_tells_151 : decode cX5_tells 151 = .ok (.getfield 7, 3) := by decide +kernel
theorem dX5_tells_154 : decode cX5_tells 154 = .ok (.iload_n 1, 1) := by decide +kernel
theorem dX5_tells_155 : decode cX5_tells 155 = .ok (.iconst 5, 1) := by decide +kernel
theorem dX5_tells_156 : decode cX5_tells 156 = .ok (.iadd, 1) := by decide +kernel
theorem dX5_tells_157 : decode cX5_tells 157 = .ok (.iaload, 1) := by decide +kernel
theorem dX5_tells_158 : decode cX5_tells 158 = .ok (.if_icmp .lt 29, 3) := by decide +kernel
theorem dX5_tells_161 : decode cX5_tells 161 = .ok (.aload_n 0, 1) := by decide +kernel
theorem dX5_tells_162 : decode cX5_tells 162 = .ok (.iload_n 1, 1) := by decide +kernel
theorem dX5_tells_163 : decode cX5_tells 163 = .ok (.iload_n 2, 1) := by decide +kernel
theorem dX5_tells_164 : decode cX5_tells 164 = .ok (.iload_n 3, 1) := by decide +kernel
theorem dX5_tells_165 : decode cX5_tells 165 = .ok (.invokevirtual 50, 3) := by decide +kernel
theorem dX5_tells_168 : decode cX5_tells 168 = .ok (.aload_n 0, 1) := by decide +kernel
theorem dX5_tells_169 : decode cX5_tells 169 = .ok (.getfield 7, 3) := by decide +kernel
theorem dX5_tells_172 : decode cX5_tells 172 = .ok (.iload_n 1, 1) := by decide +kernel
theorem dX5_tells_173 : decode cX5_tells 173 = .ok (.bipush 9, 2) := by decide +kernel
theorem dX5_tells_175 : decode cX5_tells 175 = .ok (.iadd, 1) := by decide +kernel
theorem dX5_tells_176 : decode cX5_tells 176 = .ok (.iaload, 1) := by decide +kernel
theorem dX5_tells_177 : decode cX5_tells 177 = .ok (.bipush 8, 2) := by decide +kernel
theorem dX5_tells_179 : decode cX5_tells 179 = .ok (.iadd, 1) := by decide +kernel
theorem dX5_tells_180 : decode cX5_tells 180 = .ok (.if_icmp .gt 7, 3) := by decide +kernel
theorem dX5_tells_183 : decode cX5_tells 183 = .ok (.iconst 1, 1) := by decide +kernel
theorem dX5_tells_184 : decode cX5_tells 184 = .ok (.goto 4, 3) := by decide +kernel
theorem dX5_tells_187 : decode cX5_tells 187 = .ok (.iconst 0, 1) := by decide +kernel
theorem dX5_tells_188 : decode cX5_tells 188 = .ok (.istore 8, 2) := by decide +kernel
theorem dX5_tells_190 : decode cX5_tells 190 = .ok (.iload 8, 2) := by decide +kernel
theorem dX5_tells_192 : decode cX5_tells 192 = .ok (.ifCond .eq 76, 3) := by decide +kernel
theorem dX5_tells_195 : decode cX5_tells 195 = .ok (.aload_n 0, 1) := by decide +kernel
theorem dX5_tells_196 : decode cX5_tells 196 = .ok (.getfield 7, 3) := by decide +kernel
theorem dX5_tells_199 : decode cX5_tells 199 = .ok (.iload_n 1, 1) := by decide +kernel
theorem dX5_tells_200 : decode cX5_tells 200 = .ok (.bipush 7, 2) := by decide +kernel
theorem dX5_tells_202 : decode cX5_tells 202 = .ok (.iadd, 1) := by decide +kernel
theorem dX5_tells_203 : decode cX5_tells 203 = .ok (.bipush 16, 2) := by decide +kernel
theorem dX5_tells_205 : decode cX5_tells 205 = .ok (.iload_n 2, 1) := by decide +kernel
theorem dX5_tells_206 : decode cX5_tells 206 = .ok (.imul, 1) := by decide +kernel
theorem dX5_tells_207 : decode cX5_tells 207 = .ok (.iastore, 1) := by decide +kernel
theorem dX5_tells_208 : decode cX5_tells 208 = .ok (.aload_n 0, 1) := by decide +kernel
theorem dX5_tells_209 : decode cX5_tells 209 = .ok (.getfield 7, 3) := by decide +kernel
theorem dX5_tells_212 : decode cX5_tells 212 = .ok (.iload_n 1, 1) := by decide +kernel
theorem dX5_tells_213 : decode cX5_tells 213 = .ok (.bipush 7, 2) := by decide +kernel
theorem dX5_tells_215 : decode cX5_tells 215 = .ok (.iadd, 1) := by decide +kernel
theorem dX5_tells_216 : decode cX5_tells 216 = .ok (.iconst 1, 1) := by decide +kernel
theorem dX5_tells_217 : decode cX5_tells 217 = .ok (.iadd, 1) := by decide +kernel
theorem dX5_tells_218 : decode cX5_tells 218 = .ok (.bipush 16, 2) := by decide +kernel
theorem dX5_tells_220 : decode cX5_tells 220 = .ok (.iload_n 3, 1) := by decide +kernel
theorem dX5_tells_221 : decode cX5_tells 221 = .ok (.imul, 1) := by decide +kernel
theorem dX5_tells_222 : decode cX5_tells 222 = .ok (.iastore, 1) := by decide +kernel
theorem dX5_tells_223 : decode cX5_tells 223 = .ok (.aload_n 0, 1) := by decide +kernel
theorem dX5_tells_224 : decode cX5_tells 224 = .ok (.getfield 7, 3) := by decide +kernel
theorem dX5_tells_227 : decode cX5_tells 227 = .ok (.iload_n 1, 1) := by decide +kernel
theorem dX5_tells_228 : decode cX5_tells 228 = .ok (.bipush 12, 2) := by decide +kernel
theorem dX5_tells_230 : decode cX5_tells 230 = .ok (.iadd, 1) := by decide +kernel
theorem dX5_tells_231 : decode cX5_tells 231 = .ok (.iconst 0, 1) := by decide +kernel
theorem dX5_tells_232 : decode cX5_tells 232 = .ok (.iastore, 1) := by decide +kernel
theorem dX5_tells_233 : decode cX5_tells 233 = .ok (.aload_n 0, 1) := by decide +kernel
theorem dX5_tells_234 : decode cX5_tells 234 = .ok (.getfield 7, 3) := by decide +kernel
theorem dX5_tells_237 : decode cX5_tells 237 = .ok (.iload_n 1, 1) := by decide +kernel
theorem dX5_tells_238 : decode cX5_tells 238 = .ok (.bipush 14, 2) := by decide +kernel
theorem dX5_tells_240 : decode cX5_tells 240 = .ok (.iadd, 1) := by decide +kernel
theorem dX5_tells_241 : decode cX5_tells 241 = .ok (.iconst 0, 1) := by decide +kernel
theorem dX5_tells_242 : decode cX5_tells 242 = .ok (.iastore, 1) := by decide +kernel
theorem dX5_tells_243 : decode cX5_tells 243 = .ok (.aload_n 0, 1) := by decide +kernel
theorem dX5_tells_244 : decode cX5_tells 244 = .ok (.getfield 7, 3) := by decide +kernel
theorem dX5_tells_247 : decode cX5_tells 247 = .ok (.iload_n 1, 1) := by decide +kernel
theorem dX5_tells_248 : decode cX5_tells 248 = .ok (.bipush 14, 2) := by decide +kernel
theorem dX5_tells_250 : decode cX5_tells 250 = .ok (.iadd, 1) := by decide +kernel
theorem dX5_tells_251 : decode cX5_tells 251 = .ok (.iconst 1, 1) := by decide +kernel
theorem dX5_tells_252 : decode cX5_tells 252 = .ok (.iadd, 1) := by decide +kernel
theorem dX5_tells_253 : decode cX5_tells 253 = .ok (.iconst 0, 1) := by decide +kernel
theorem dX5_tells_254 : decode cX5_tells 254 = .ok (.iastore, 1) := by decide +kernel
theorem dX5_tells_255 : decode cX5_tells 255 = .ok (.aload_n 0, 1) := by decide +kernel
theorem dX5_tells_256 : decode cX5_tells 256 = .ok (.getfield 7, 3) := by decide +kernel
theorem dX5_tells_259 : decode cX5_tells 259 = .ok (.iload_n 1, 1) := by decide +kernel
theorem dX5_tells_260 : decode cX5_tells 260 = .ok (.bipush 17, 2) := by decide +kernel
theorem dX5_tells_262 : decode cX5_tells 262 = .ok (.iadd, 1) := by decide +kernel
theorem dX5_tells_263 : decode cX5_tells 263 = .ok (.dup2, 1) := by decide +kernel
theorem dX5_tells_264 : decode cX5_tells 264 = .ok (.iaload, 1) := by decide +kernel
theorem dX5_tells_265 : decode cX5_tells 265 = .ok (.iconst 1, 1) := by decide +kernel
theorem dX5_tells_266 : decode cX5_tells 266 = .ok (.iadd, 1) := by decide +kernel
theorem dX5_tells_267 : decode cX5_tells 267 = .ok (.iastore, 1) := by decide +kernel
theorem dX5_tells_268 : decode cX5_tells 268 = .ok (.return_, 1) := by decide +kernel
theorem dX5_sign_0 : decode cX5_sign 0 = .ok (.iload_n 0, 1) := by decide +kernel
theorem dX5_sign_1 : decode cX5_sign 1 = .ok (.ifCond .le 7, 3) := by decide +kernel
theorem dX5_sign_4 : decode cX5_sign 4 = .ok (.iconst 2, 1) := by decide +kernel
theorem dX5_sign_5 : decode cX5_sign 5 = .ok (.goto 12, 3) := by decide +kernel
theorem dX5_sign_8 : decode cX5_sign 8 = .ok (.iload_n 0, 1) := by decide +kernel
theorem dX5_sign_9 : decode cX5_sign 9 = .ok (.ifCond .ge 7, 3) := by decide +kernel
theorem dX5_sign_12 : decode cX5_sign 12 = .ok (.iconst 0, 1) := by decide +kernel
theorem dX5_sign_13 : decode cX5_sign 13 = .ok (.goto 4, 3) := by decide +kernel
theorem dX5_sign_16 : decode cX5_sign 16 = .ok (.iconst 1, 1) := by decide +kernel
theorem dX5_sign_17 : decode cX5_sign 17 = .ok (.ireturn, 1) := by decide +kernel
theorem dX5_counts_0 : decode cX5_counts 0 = .ok (.aload_n 0, 1) := by decide +kernel
theorem dX5_counts_1 : decode cX5_counts 1 = .ok (.getfield 7, 3) := by decide +kernel
theorem dX5_counts_4 : decode cX5_counts 4 = .ok (.iload_n 1, 1) := by decide +kernel
theorem dX5_counts_5 : decode cX5_counts 5 = .ok (.bipush 14, 2) := by decide +kernel
theorem dX5_counts_7 : decode cX5_counts 7 = .ok (.iadd, 1) := by decide +kernel
theorem dX5_counts_8 : decode cX5_counts 8 = .ok (.iaload, 1) := by decide +kernel
theorem dX5_counts_9 : decode cX5_counts 9 = .ok (.invokestatic 60, 3) := by decide +kernel
theorem dX5_counts_12 : decode cX5_counts 12 = .ok (.istore_n 2, 1) := by decide +kernel
theorem dX5_counts_13 : decode cX5_counts 13 = .ok (.aload_n 0, 1) := by decide +kernel
theorem dX5_counts_14 : decode cX5_counts 14 = .ok (.getfield 7, 3) := by decide +kernel
theorem dX5_counts_17 : decode cX5_counts 17 = .ok (.iload_n 1, 1) := by decide +kernel
theorem dX5_counts_18 : decode cX5_counts 18 = .ok (.bipush 14, 2) := by decide +kernel
theorem dX5_counts_20 : decode cX5_counts 20 = .ok (.iadd, 1) := by decide +kernel
theorem dX5_counts_21 : decode cX5_counts 21 = .ok (.iconst 1, 1) := by decide +kernel
theorem dX5_counts_22 : decode cX5_counts 22 = .ok (.iadd, 1) := by decide +kernel
theorem dX5_counts_23 : decode cX5_counts 23 = .ok (.iaload, 1) := by decide +kernel
theorem dX5_counts_24 : decode cX5_counts 24 = .ok (.invokestatic 60, 3) := by decide +kernel
theorem dX5_counts_27 : decode cX5_counts 27 = .ok (.istore_n 3, 1) := by decide +kernel
theorem dX5_counts_28 : decode cX5_counts 28 = .ok (.iconst 0, 1) := by decide +kernel
theorem dX5_counts_29 : decode cX5_counts 29 = .ok (.istore 4, 2) := by decide +kernel
theorem dX5_counts_31 : decode cX5_counts 31 = .ok (.iload 4, 2) := by decide +kernel
theorem dX5_counts_33 : decode cX5_counts 33 = .ok (.aload_n 0, 1) := by decide +kernel
theorem dX5_counts_34 : decode cX5_counts 34 = .ok (.getfield 7, 3) := by decide +kernel
theorem dX5_counts_37 : decode cX5_counts 37 = .ok (.iload_n 1, 1) := by decide +kernel
theorem dX5_counts_38 : decode cX5_counts 38 = .ok (.bipush 22, 2) := by decide +kernel
theorem dX5_counts_40 : decode cX5_counts 40 = .ok (.iadd, 1) := by decide +kernel
theorem dX5_counts_41 : decode cX5_counts 41 = .ok (.iaload, 1) := by decide +kernel
theorem dX5_counts_42 : decode cX5_counts 42 = .ok (.if_icmp .ge 47, 3) := by decide +kernel
theorem dX5_counts_45 : decode cX5_counts 45 = .ok (.aload_n 0, 1) := by decide +kernel
theorem dX5_counts_46 : decode cX5_counts 46 = .ok (.getfield 7, 3) := by decide +kernel
theorem dX5_counts_49 : decode cX5_counts 49 = .ok (.iload_n 1, 1) := by decide +kernel
theorem dX5_counts_50 : decode cX5_counts 50 = .ok (.bipush 25, 2) := by decide +kernel
theorem dX5_counts_52 : decode cX5_counts 52 = .ok (.iadd, 1) := by decide +kernel
theorem dX5_counts_53 : decode cX5_counts 53 = .ok (.iconst 4, 1) := by decide +kernel
theorem dX5_counts_54 : decode cX5_counts 54 = .ok (.iload 4, 2) := by decide +kernel
theorem dX5_counts_56 : decode cX5_counts 56 = .ok (.imul, 1) := by decide +kernel
theorem dX5_counts_57 : decode cX5_counts 57 = .ok (.iadd, 1) := by decide +kernel
theorem dX5_counts_58 : decode cX5_counts 58 = .ok (.iaload, 1) := by decide +kernel
theorem dX5_counts_59 : decode cX5_counts 59 = .ok (.iload_n 2, 1) := by decide +kernel
theorem dX5_counts_60 : decode cX5_counts 60 = .ok (.if_icmp .ne 23, 3) := by decide +kernel
theorem dX5_counts_63 : decode cX5_counts 63 = .ok (.aload_n 0, 1) := by decide +kernel
theorem dX5_counts_64 : decode cX5_counts 64 = .ok (.getfield 7, 3) := by decide +kernel
theorem dX5_counts_67 : decode cX5_counts 67 = .ok (.iload_n 1, 1) := by decide +kernel
theorem dX5_counts_68 : decode cX5_counts 68 = .ok (.bipush 25, 2) := by decide +kernel
theorem dX5_counts_70 : decode cX5_counts 70 = .ok (.iadd, 1) := by decide +kernel
theorem dX5_counts_71 : decode cX5_counts 71 = .ok (.iconst 4, 1) := by decide +kernel
theorem dX5_counts_72 : decode cX5_counts 72 = .ok (.iload 4, 2) := by decide +kernel
theorem dX5_counts_74 : decode cX5_counts 74 = .ok (.imul, 1) := by decide +kernel
theorem dX5_counts_75 : decode cX5_counts 75 = .ok (.iadd, 1) := by decide +kernel
theorem dX5_counts_76 : decode cX5_counts 76 = .ok (.iconst 1, 1) := by decide +kernel
theorem dX5_counts_77 : decode cX5_counts 77 = .ok (.iadd, 1) := by decide +kernel
theorem dX5_counts_78 : decode cX5_counts 78 = .ok (.iaload, 1) := by decide +kernel
theorem dX5_counts_79 : decode cX5_counts 79 = .ok (.iload_n 3, 1) := by decide +kernel
theorem dX5_counts_80 : decode cX5_counts 80 = .ok (.if_icmp .eq 9, 3) := by decide +kernel
theorem dX5_counts_83 : decode cX5_counts 83 = .ok (.iinc 4 1, 3) := by decide +kernel
theorem dX5_counts_86 : decode cX5_counts 86 = .ok (.goto (-55), 3) := by decide +kernel
theorem dX5_counts_89 : decode cX5_counts 89 = .ok (.iload_n 1, 1) := by decide +kernel
theorem dX5_counts_90 : decode cX5_counts 90 = .ok (.bipush 25, 2) := by decide +kernel
theorem dX5_counts_92 : decode cX5_counts 92 = .ok (.iadd, 1) := by decide +kernel
theorem dX5_counts_93 : decode cX5_counts 93 = .ok (.iconst 4, 1) := by decide +kernel
theorem dX5_counts_94 : decode cX5_counts 94 = .ok (.iload 4, 2) := by decide +kernel
theorem dX5_counts_96 : decode cX5_counts 96 = .ok (.imul, 1) := by decide +kernel
theorem dX5_counts_97 : decode cX5_counts 97 = .ok (.iadd, 1) := by decide +kernel
theorem dX5_counts_98 : decode cX5_counts 98 = .ok (.istore 5, 2) := by decide +kernel
theorem dX5_counts_100 : decode cX5_counts 100 = .ok (.iload 4, 2) := by decide +kernel
theorem dX5_counts_102 : decode cX5_counts 102 = .ok (.aload_n 0, 1) := by decide +kernel
theorem dX5_counts_103 : decode cX5_counts 103 = .ok (.getfield 7, 3) := by decide +kernel
theorem dX5_counts_106 : decode cX5_counts 106 = .ok (.iload_n 1, 1) := by decide +kernel
theorem dX5_counts_107 : decode cX5_counts 107 = .ok (.bipush 22, 2) := by decide +kernel
theorem dX5_counts_109 : decode cX5_counts 109 = .ok (.iadd, 1) := by decide +kernel
theorem dX5_counts_110 : decode cX5_counts 110 = .ok (.iaload, 1) := by decide +kernel
theorem dX5_counts_111 : decode cX5_counts 111 = .ok (.if_icmp .ne 54, 3) := by decide +kernel
theorem dX5_counts_114 : decode cX5_counts 114 = .ok (.aload_n 0, 1) := by decide +kernel
theorem dX5_counts_115 : decode cX5_counts 115 = .ok (.getfield 7, 3) := by decide +kernel
theorem dX5_counts_118 : decode cX5_counts 118 = .ok (.iload_n 1, 1) := by decide +kernel
theorem dX5_counts_119 : decode cX5_counts 119 = .ok (.bipush 22, 2) := by decide +kernel
theorem dX5_counts_121 : decode cX5_counts 121 = .ok (.iadd, 1) := by decide +kernel
theorem dX5_counts_122 : decode cX5_counts 122 = .ok (.dup2, 1) := by decide +kernel
theorem dX5_counts_123 : decode cX5_counts 123 = .ok (.iaload, 1) := by decide +kernel
theorem dX5_counts_124 : decode cX5_counts 124 = .ok (.iconst 1, 1) := by decide +kernel
theorem dX5_counts_125 : decode cX5_counts 125 = .ok (.iadd, 1) := by decide +kernel
theorem dX5_counts_126 : decode cX5_counts 126 = .ok (.iastore, 1) := by decide +kernel
theorem dX5_counts_127 : decode cX5_counts 127 = .ok (.aload_n 0, 1) := by decide +kernel
theorem dX5_counts_128 : decode cX5_counts 128 = .ok (.getfield 7, 3) := by decide +kernel
theorem dX5_counts_131 : decode cX5_counts 131 = .ok (.iload 5, 2) := by decide +kernel
theorem dX5_counts_133 : decode cX5_counts 133 = .ok (.iload_n 2, 1) := by decide +kernel
theorem dX5_counts_134 : decode cX5_counts 134 = .ok (.iastore, 1) := by decide +kernel
theorem dX5_counts_135 : decode cX5_counts 135 = .ok (.aload_n 0, 1) := by decide +kernel
theorem dX5_counts_136 : decode cX5_counts 136 = .ok (.getfield 7, 3) := by decide +kernel
theorem dX5_counts_139 : decode cX5_counts 139 = .ok (.iload 5, 2) := by decide +kernel
theorem dX5_counts_141 : decode cX5_counts 141 = .ok (.iconst 1, 1) := by decide +kernel
theorem dX5_counts_142 : decode cX5_counts 142 = .ok (.iadd, 1) := by decide +kernel
theorem dX5_counts_143 : decode cX5_counts 143 = .ok (.iload_n 3, 1) := by decide +kernel
theorem dX5_counts_144 : decode cX5_counts 144 = .ok (.iastore, 1) := by decide +kernel
theorem dX5_counts_145 : decode cX5_counts 145 = .ok (.aload_n 0, 1) := by decide +kernel
theorem dX5_counts_146 : decode cX5_counts 146 = .ok (.getfield 7, 3) := by decide +kernel
theorem dX5_counts_149 : decode cX5_counts 149 = .ok (.iload 5, 2) := by decide +kernel
theorem dX5_counts_151 : decode cX5_counts 151 = .ok (.iconst 2, 1) := by decide +kernel
theorem dX5_counts_152 : decode cX5_counts 152 = .ok (.iadd, 1) := by decide +kernel
theorem dX5_counts_153 : decode cX5_counts 153 = .ok (.iconst 0, 1) := by decide +kernel
theorem dX5_counts_154 : decode cX5_counts 154 = .ok (.iastore, 1) := by decide +kernel
theorem dX5_counts_155 : decode cX5_counts 155 = .ok (.aload_n 0, 1) := by decide +kernel
theorem dX5_counts_156 : decode cX5_counts 156 = .ok (.getfield 7, 3) := by decide +kernel
theorem dX5_counts_159 : decode cX5_counts 159 = .ok (.iload 5, 2) := by decide +kernel
theorem dX5_counts_161 : decode cX5_counts 161 = .ok (.iconst 3, 1) := by decide +kernel
theorem dX5_counts_162 : decode cX5_counts 162 = .ok (.iadd, 1) := by decide +kernel
theorem dX5_counts_163 : decode cX5_counts 163 = .ok (.iconst 0, 1) := by decide +kernel
theorem dX5_counts_164 : decode cX5_counts 164 = .ok (.iastore, 1) := by decide +kernel
theorem dX5_counts_165 : decode cX5_counts 165 = .ok (.aload_n 0, 1) := by decide +kernel
theorem dX5_counts_166 : decode cX5_counts 166 = .ok (.getfield 7, 3) := by decide +kernel
theorem dX5_counts_169 : decode cX5_counts 169 = .ok (.iload_n 1, 1) := by decide +kernel
theorem dX5_counts_170 : decode cX5_counts 170 = .ok (.bipush 24, 2) := by decide +kernel
theorem dX5_counts_172 : decode cX5_counts 172 = .ok (.iadd, 1) := by decide +kernel
theorem dX5_counts_173 : decode cX5_counts 173 = .ok (.iload 4, 2) := by decide +kernel
theorem dX5_counts_175 : decode cX5_counts 175 = .ok (.aload_n 0, 1) := by decide +kernel
theorem dX5_counts_176 : decode cX5_counts 176 = .ok (.getfield 7, 3) := by decide +kernel
theorem dX5_counts_179 : decode cX5_counts 179 = .ok (.iload_n 1, 1) := by decide +kernel
theorem dX5_counts_180 : decode cX5_counts 180 = .ok (.bipush 23, 2) := by decide +kernel
theorem dX5_counts_182 : decode cX5_counts 182 = .ok (.iadd, 1) := by decide +kernel
theorem dX5_counts_183 : decode cX5_counts 183 = .ok (.iaload, 1) := by decide +kernel
theorem dX5_counts_184 : decode cX5_counts 184 = .ok (.if_icmp .ne 17, 3) := by decide +kernel
theorem dX5_counts_187 : decode cX5_counts 187 = .ok (.aload_n 0, 1) := by decide +kernel
theorem dX5_counts_188 : decode cX5_counts 188 = .ok (.getfield 7, 3) := by decide +kernel
theorem dX5_counts_191 : decode cX5_counts 191 = .ok (.iload_n 1, 1) := by decide +kernel
theorem dX5_counts_192 : decode cX5_counts 192 = .ok (.bipush 24, 2) := by decide +kernel
theorem dX5_counts_194 : decode cX5_counts 194 = .ok (.iadd, 1) := by decide +kernel
theorem dX5_counts_195 : decode cX5_counts 195 = .ok (.iaload, 1) := by decide +kernel
theorem dX5_counts_196 : decode cX5_counts 196 = .ok (.iconst 1, 1) := by decide +kernel
theorem dX5_counts_197 : decode cX5_counts 197 = .ok (.iadd, 1) := by decide +kernel
theorem dX5_counts_198 : decode cX5_counts 198 = .ok (.goto 4, 3) := by decide +kernel
theorem dX5_counts_201 : decode cX5_counts 201 = .ok (.iconst 1, 1) := by decide +kernel
theorem dX5_counts_202 : decode cX5_counts 202 = .ok (.iastore, 1) := by decide +kernel
theorem dX5_counts_203 : decode cX5_counts 203 = .ok (.aload_n 0, 1) := by decide +kernel
theorem dX5_counts_204 : decode cX5_counts 204 = .ok (.getfield 7, 3) := by decide +kernel
theorem dX5_counts_207 : decode cX5_counts 207 = .ok (.iload_n 1, 1) := by decide +kernel
theorem dX5_counts_208 : decode cX5_counts 208 = .ok (.bipush 23, 2) := by decide +kernel
theorem dX5_counts_210 : decode cX5_counts 210 = .ok (.iadd, 1) := by decide +kernel
theorem dX5_counts_211 : decode cX5_counts 211 = .ok (.iload 4, 2) := by decide +kernel
theorem dX5_counts_213 : decode cX5_counts 213 = .ok (.iastore, 1) := by decide +kernel
theorem dX5_counts_214 : decode cX5_counts 214 = .ok (.aload_n 0, 1) := by decide +kernel
theorem dX5_counts_215 : decode cX5_counts 215 = .ok (.getfield 7, 3) := by decide +kernel
theorem dX5_counts_218 : decode cX5_counts 218 = .ok (.iload 5, 2) := by decide +kernel
theorem dX5_counts_220 : decode cX5_counts 220 = .ok (.iconst 2, 1) := by decide +kernel
theorem dX5_counts_221 : decode cX5_counts 221 = .ok (.iadd, 1) := by decide +kernel
theorem dX5_counts_222 : decode cX5_counts 222 = .ok (.dup2, 1) := by decide +kernel
theorem dX5_counts_223 : decode cX5_counts 223 = .ok (.iaload, 1) := by decide +kernel
theorem dX5_counts_224 : decode cX5_counts 224 = .ok (.iconst 1, 1) := by decide +kernel
theorem dX5_counts_225 : decode cX5_counts 225 = .ok (.iadd, 1) := by decide +kernel
theorem dX5_counts_226 : decode cX5_counts 226 = .ok (.iastore, 1) := by decide +kernel
theorem dX5_counts_227 : decode cX5_counts 227 = .ok (.aload_n 0, 1) := by decide +kernel
theorem dX5_counts_228 : decode cX5_counts 228 = .ok (.getfield 7, 3) := by decide +kernel
theorem dX5_counts_231 : decode cX5_counts 231 = .ok (.iload 5, 2) := by decide +kernel
theorem dX5_counts_233 : decode cX5_counts 233 = .ok (.iconst 3, 1) := by decide +kernel
theorem dX5_counts_234 : decode cX5_counts 234 = .ok (.iadd, 1) := by decide +kernel
theorem dX5_counts_235 : decode cX5_counts 235 = .ok (.aload_n 0, 1) := by decide +kernel
theorem dX5_counts_236 : decode cX5_counts 236 = .ok (.getfield 7, 3) := by decide +kernel
theorem dX5_counts_239 : decode cX5_counts 239 = .ok (.iload 5, 2) := by decide +kernel
theorem dX5_counts_241 : decode cX5_counts 241 = .ok (.iconst 3, 1) := by decide +kernel
theorem dX5_counts_242 : decode cX5_counts 242 = .ok (.iadd, 1) := by decide +kernel
theorem dX5_counts_243 : decode cX5_counts 243 = .ok (.iaload, 1) := by decide +kernel
theorem dX5_counts_244 : decode cX5_counts 244 = .ok (.aload_n 0, 1) := by decide +kernel
theorem dX5_counts_245 : decode cX5_counts 245 = .ok (.getfield 7, 3) := by decide +kernel
theorem dX5_counts_248 : decode cX5_counts 248 = .ok (.iload_n 1, 1) := by decide +kernel
theorem dX5_counts_249 : decode cX5_counts 249 = .ok (.bipush 24, 2) := by decide +kernel
theorem dX5_counts_251 : decode cX5_counts 251 = .ok (.iadd, 1) := by decide +kernel
theorem dX5_counts_252 : decode cX5_counts 252 = .ok (.iaload, 1) := by decide +kernel
theorem dX5_counts_253 : decode cX5_counts 253 = .ok (.invokestatic 42, 3) := by decide +kernel
theorem dX5_counts_256 : decode cX5_counts 256 = .ok (.iastore, 1) := by decide +kernel
theorem dX5_counts_257 : decode cX5_counts 257 = .ok (.aload_n 0, 1) := by decide +kernel
theorem dX5_counts_258 : decode cX5_counts 258 = .ok (.getfield 7, 3) := by decide +kernel
theorem dX5_counts_261 : decode cX5_counts 261 = .ok (.iload_n 1, 1) := by decide +kernel
theorem dX5_counts_262 : decode cX5_counts 262 = .ok (.bipush 19, 2) := by decide +kernel
theorem dX5_counts_264 : decode cX5_counts 264 = .ok (.iadd, 1) := by decide +kernel
theorem dX5_counts_265 : decode cX5_counts 265 = .ok (.dup2, 1) := by decide +kernel
theorem dX5_counts_266 : decode cX5_counts 266 = .ok (.iaload, 1) := by decide +kernel
theorem dX5_counts_267 : decode cX5_counts 267 = .ok (.aload_n 0, 1) := by decide +kernel
theorem dX5_counts_268 : decode cX5_counts 268 = .ok (.iload_n 1, 1) := by decide +kernel
theorem dX5_counts_269 : decode cX5_counts 269 = .ok (.invokevirtual 46, 3) := by decide +kernel
theorem dX5_counts_272 : decode cX5_counts 272 = .ok (.ifCond .eq 7, 3) := by decide +kernel
theorem dX5_counts_275 : decode cX5_counts 275 = .ok (.iconst 1, 1) := by decide +kernel
theorem dX5_counts_276 : decode cX5_counts 276 = .ok (.goto 4, 3) := by decide +kernel
theorem dX5_counts_279 : decode cX5_counts 279 = .ok (.iconst 0, 1) := by decide +kernel
theorem dX5_counts_280 : decode cX5_counts 280 = .ok (.iadd, 1) := by decide +kernel
theorem dX5_counts_281 : decode cX5_counts 281 = .ok (.iastore, 1) := by decide +kernel
theorem dX5_counts_282 : decode cX5_counts 282 = .ok (.return_, 1) := by decide +kernel
theorem dX5_samples_0 : decode cX5_samples 0 = .ok (.aload_n 0, 1) := by decide +kernel
theorem dX5_samples_1 : decode cX5_samples 1 = .ok (.getfield 7, 3) := by decide +kernel
theorem dX5_samples_4 : decode cX5_samples 4 = .ok (.iload_n 1, 1) := by decide +kernel
theorem dX5_samples_5 : decode cX5_samples 5 = .ok (.bipush 21, 2) := by decide +kernel
theorem dX5_samples_7 : decode cX5_samples 7 = .ok (.iadd, 1) := by decide +kernel
theorem dX5_samples_8 : decode cX5_samples 8 = .ok (.iaload, 1) := by decide +kernel
theorem dX5_samples_9 : decode cX5_samples 9 = .ok (.ifCond .le 45, 3) := by decide +kernel
theorem dX5_samples_12 : decode cX5_samples 12 = .ok (.iload_n 2, 1) := by decide +kernel
theorem dX5_samples_13 : decode cX5_samples 13 = .ok (.aload_n 0, 1) := by decide +kernel
theorem dX5_samples_14 : decode cX5_samples 14 = .ok (.getfield 7, 3) := by decide +kernel
theorem dX5_samples_17 : decode cX5_samples 17 = .ok (.iload_n 1, 1) := by decide +kernel
theorem dX5_samples_18 : decode cX5_samples 18 = .ok (.bipush 10, 2) := by decide +kernel
theorem dX5_samples_20 : decode cX5_samples 20 = .ok (.iadd, 1) := by decide +kernel
theorem dX5_samples_21 : decode cX5_samples 21 = .ok (.iaload, 1) := by decide +kernel
theorem dX5_samples_22 : decode cX5_samples 22 = .ok (.isub, 1) := by decide +kernel
theorem dX5_samples_23 : decode cX5_samples 23 = .ok (.invokestatic 38, 3) := by decide +kernel
theorem dX5_samples_26 : decode cX5_samples 26 = .ok (.iconst 1, 1) := by decide +kernel
theorem dX5_samples_27 : decode cX5_samples 27 = .ok (.if_icmp .gt 27, 3) := by decide +kernel
theorem dX5_samples_30 : decode cX5_samples 30 = .ok (.iload_n 3, 1) := by decide +kernel
theorem dX5_samples_31 : decode cX5_samples 31 = .ok (.aload_n 0, 1) := by decide +kernel
theorem dX5_samples_32 : decode cX5_samples 32 = .ok (.getfield 7, 3) := by decide +kernel
theorem dX5_samples_35 : decode cX5_samples 35 = .ok (.iload_n 1, 1) := by decide +kernel
theorem dX5_samples_36 : decode cX5_samples 36 = .ok (.bipush 10, 2) := by decide +kernel
theorem dX5_samples_38 : decode cX5_samples 38 = .ok (.iadd, 1) := by decide +kernel
theorem dX5_samples_39 : decode cX5_samples 39 = .ok (.iconst 1, 1) := by decide +kernel
theorem dX5_samples_40 : decode cX5_samples 40 = .ok (.iadd, 1) := by decide +kernel
theorem dX5_samples_41 : decode cX5_samples 41 = .ok (.iaload, 1) := by decide +kernel
theorem dX5_samples_42 : decode cX5_samples 42 = .ok (.isub, 1) := by decide +kernel
theorem dX5_samples_43 : decode cX5_samples 43 = .ok (.invokestatic 38, 3) := by decide +kernel
theorem dX5_samples_46 : decode cX5_samples 46 = .ok (.iconst 1, 1) := by decide +kernel
theorem dX5_samples_47 : decode cX5_samples 47 = .ok (.if_icmp .gt 7, 3) := by decide +kernel
theorem dX5_samples_50 : decode cX5_samples 50 = .ok (.iconst 1, 1) := by decide +kernel
theorem dX5_samples_51 : decode cX5_samples 51 = .ok (.goto 4, 3) := by decide +kernel
theorem dX5_samples_54 : decode cX5_samples 54 = .ok (.iconst 0, 1) := by decide +kernel
theorem dX5_samples_55 : decode cX5_samples 55 = .ok (.istore 4, 2) := by decide +kernel
theorem dX5_samples_57 : decode cX5_samples 57 = .ok (.aload_n 0, 1) := by decide +kernel
theorem dX5_samples_58 : decode cX5_samples 58 = .ok (.getfield 7, 3) := by decide +kernel
theorem dX5_samples_61 : decode cX5_samples 61 = .ok (.iload_n 1, 1) := by decide +kernel
theorem dX5_samples_62 : decode cX5_samples 62 = .ok (.bipush 12, 2) := by decide +kernel
theorem dX5_samples_64 : decode cX5_samples 64 = .ok (.iadd, 1) := by decide +kernel
theorem dX5_samples_65 : decode cX5_samples 65 = .ok (.iload 4, 2) := by decide +kernel
theorem dX5_samples_67 : decode cX5_samples 67 = .ok (.ifCond .eq 17, 3) := by decide +kernel
theorem dX5_samples_70 : decode cX5_samples 70 = .ok (.aload_n 0, 1) := by decide +kernel
theorem dX5_samples_71 : decode cX5_samples 71 = .ok (.getfield 7, 3) := by decide +kernel
theorem dX5_samples_74 : decode cX5_samples 74 = .ok (.iload_n 1, 1) := by decide +kernel
theorem dX5_samples_75 : decode cX5_samples 75 = .ok (.bipush 12, 2) := by decide +kernel
theorem dX5_samples_77 : decode cX5_samples 77 = .ok (.iadd, 1) := by decide +kernel
theorem dX5_samples_78 : decode cX5_samples 78 = .ok (.iaload, 1) := by decide +kernel
theorem dX5_samples_79 : decode cX5_samples 79 = .ok (.iconst 1, 1) := by decide +kernel
theorem dX5_samples_80 : decode cX5_samples 80 = .ok (.iadd, 1) := by decide +kernel
theorem dX5_samples_81 : decode cX5_samples 81 = .ok (.goto 4, 3) := by decide +kernel
theorem dX5_samples_84 : decode cX5_samples 84 = .ok (.iconst 0, 1) := by decide +kernel
theorem dX5_samples_85 : decode cX5_samples 85 = .ok (.iastore, 1) := by decide +kernel
theorem dX5_samples_86 : decode cX5_samples 86 = .ok (.aload_n 0, 1) := by decide +kernel
theorem dX5_samples_87 : decode cX5_samples 87 = .ok (.getfield 7, 3) := by decide +kernel
theorem dX5_samples_90 : decode cX5_samples 90 = .ok (.iload_n 1, 1) := by decide +kernel
theorem dX5_samples_91 : decode cX5_samples 91 = .ok (.bipush 10, 2) := by decide +kernel
theorem dX5_samples_93 : decode cX5_samples 93 = .ok (.iadd, 1) := by decide +kernel
theorem dX5_samples_94 : decode cX5_samples 94 = .ok (.iload_n 2, 1) := by decide +kernel
theorem dX5_samples_95 : decode cX5_samples 95 = .ok (.iastore, 1) := by decide +kernel
theorem dX5_samples_96 : decode cX5_samples 96 = .ok (.aload_n 0, 1) := by decide +kernel
theorem dX5_samples_97 : decode cX5_samples 97 = .ok (.getfield 7, 3) := by decide +kernel
theorem dX5_samples_100 : decode cX5_samples 100 = .ok (.iload_n 1, 1) := by decide +kernel
theorem dX5_samples_101 : decode cX5_samples 101 = .ok (.bipush 10, 2) := by decide +kernel
theorem dX5_samples_103 : decode cX5_samples 103 = .ok (.iadd, 1) := by decide +kernel
theorem dX5_samples_104 : decode cX5_samples 104 = .ok (.iconst 1, 1) := by decide +kernel
theorem dX5_samples_105 : decode cX5_samples 105 = .ok (.iadd, 1) := by decide +kernel
theorem dX5_samples_106 : decode cX5_samples 106 = .ok (.iload_n 3, 1) := by decide +kernel
theorem dX5_samples_107 : decode cX5_samples 107 = .ok (.iastore, 1) := by decide +kernel
theorem dX5_samples_108 : decode cX5_samples 108 = .ok (.aload_n 0, 1) := by decide +kernel
theorem dX5_samples_109 : decode cX5_samples 109 = .ok (.iload_n 1, 1) := by decide +kernel
theorem dX5_samples_110 : decode cX5_samples 110 = .ok (.iload_n 2, 1) := by decide +kernel
theorem dX5_samples_111 : decode cX5_samples 111 = .ok (.iload_n 3, 1) := by decide +kernel
theorem dX5_samples_112 : decode cX5_samples 112 = .ok (.invokevirtual 50, 3) := by decide +kernel
theorem dX5_samples_115 : decode cX5_samples 115 = .ok (.aload_n 0, 1) := by decide +kernel
theorem dX5_samples_116 : decode cX5_samples 116 = .ok (.getfield 7, 3) := by decide +kernel
theorem dX5_samples_119 : decode cX5_samples 119 = .ok (.iload_n 1, 1) := by decide +kernel
theorem dX5_samples_120 : decode cX5_samples 120 = .ok (.bipush 9, 2) := by decide +kernel
theorem dX5_samples_122 : decode cX5_samples 122 = .ok (.iadd, 1) := by decide +kernel
theorem dX5_samples_123 : decode cX5_samples 123 = .ok (.iaload, 1) := by decide +kernel
theorem dX5_samples_124 : decode cX5_samples 124 = .ok (.if_icmp .gt 13, 3) := by decide +kernel
theorem dX5_samples_127 : decode cX5_samples 127 = .ok (.aload_n 0, 1) := by decide +kernel
theorem dX5_samples_128 : decode cX5_samples 128 = .ok (.iload_n 1, 1) := by decide +kernel
theorem dX5_samples_129 : decode cX5_samples 129 = .ok (.iload_n 2, 1) := by decide +kernel
theorem dX5_samples_130 : decode cX5_samples 130 = .ok (.iload_n 3, 1) := by decide +kernel
theorem dX5_samples_131 : decode cX5_samples 131 = .ok (.invokevirtual 63, 3) := by decide +kernel
theorem dX5_samples_134 : decode cX5_samples 134 = .ok (.goto 10, 3) := by decide +kernel
theorem dX5_samples_137 : decode cX5_samples 137 = .ok (.aload_n 0, 1) := by decide +kernel
theorem dX5_samples_138 : decode cX5_samples 138 = .ok (.iload_n 1, 1) := by decide +kernel
theorem dX5_samples_139 : decode cX5_samples 139 = .ok (.iload_n 2, 1) := by decide +kernel
theorem dX5_samples_140 : decode cX5_samples 140 = .ok (.iload_n 3, 1) := by decide +kernel
theorem dX5_samples_141 : decode cX5_samples 141 = .ok (.invokevirtual 66, 3) := by decide +kernel
theorem dX5_samples_144 : decode cX5_samples 144 = .ok (.aload_n 0, 1) := by decide +kernel
theorem dX5_samples_145 : decode cX5_samples 145 = .ok (.getfield 7, 3) := by decide +kernel
theorem dX5_samples_148 : decode cX5_samples 148 = .ok (.iload_n 1, 1) := by decide +kernel
theorem dX5_samples_149 : decode cX5_samples 149 = .ok (.bipush 13, 2) := by decide +kernel
theorem dX5_samples_151 : decode cX5_samples 151 = .ok (.iadd, 1) := by decide +kernel
theorem dX5_samples_152 : decode cX5_samples 152 = .ok (.dup2, 1) := by decide +kernel
theorem dX5_samples_153 : decode cX5_samples 153 = .ok (.iaload, 1) := by decide +kernel
theorem dX5_samples_154 : decode cX5_samples 154 = .ok (.aload_n 0, 1) := by decide +kernel
theorem dX5_samples_155 : decode cX5_samples 155 = .ok (.getfield 7, 3) := by decide +kernel
theorem dX5_samples_158 : decode cX5_samples 158 = .ok (.iload_n 1, 1) := by decide +kernel
theorem dX5_samples_159 : decode cX5_samples 159 = .ok (.bipush 13, 2) := by decide +kernel
theorem dX5_samples_161 : decode cX5_samples 161 = .ok (.iadd, 1) := by decide +kernel
theorem dX5_samples_162 : decode cX5_samples 162 = .ok (.iaload, 1) := by decide +kernel
theorem dX5_samples_163 : decode cX5_samples 163 = .ok (.ifCond .le 7, 3) := by decide +kernel
theorem dX5_samples_166 : decode cX5_samples 166 = .ok (.iconst 1, 1) := by decide +kernel
theorem dX5_samples_167 : decode cX5_samples 167 = .ok (.goto 4, 3) := by decide +kernel
theorem dX5_samples_170 : decode cX5_samples 170 = .ok (.iconst 0, 1) := by decide +kernel
theorem dX5_samples_171 : decode cX5_samples 171 = .ok (.isub, 1) := by decide +kernel
theorem dX5_samples_172 : decode cX5_samples 172 = .ok (.iastore, 1) := by decide +kernel
theorem dX5_samples_173 : decode cX5_samples 173 = .ok (.aload_n 0, 1) := by decide +kernel
theorem dX5_samples_174 : decode cX5_samples 174 = .ok (.getfield 7, 3) := by decide +kernel
theorem dX5_samples_177 : decode cX5_samples 177 = .ok (.iload_n 1, 1) := by decide +kernel
theorem dX5_samples_178 : decode cX5_samples 178 = .ok (.bipush 21, 2) := by decide +kernel
theorem dX5_samples_180 : decode cX5_samples 180 = .ok (.iadd, 1) := by decide +kernel
theorem dX5_samples_181 : decode cX5_samples 181 = .ok (.dup2, 1) := by decide +kernel
theorem dX5_samples_182 : decode cX5_samples 182 = .ok (.iaload, 1) := by decide +kernel
theorem dX5_samples_183 : decode cX5_samples 183 = .ok (.iconst 1, 1) := by decide +kernel
theorem dX5_samples_184 : decode cX5_samples 184 = .ok (.iadd, 1) := by decide +kernel
theorem dX5_samples_185 : decode cX5_samples 185 = .ok (.iastore, 1) := by decide +kernel
theorem dX5_samples_186 : decode cX5_samples 186 = .ok (.aload_n 0, 1) := by decide +kernel
theorem dX5_samples_187 : decode cX5_samples 187 = .ok (.iload_n 1, 1) := by decide +kernel
theorem dX5_samples_188 : decode cX5_samples 188 = .ok (.invokevirtual 69, 3) := by decide +kernel
theorem dX5_samples_191 : decode cX5_samples 191 = .ok (.return_, 1) := by decide +kernel
theorem dX5_told_0 : decode cX5_told 0 = .ok (.sipush 1000, 3) := by decide +kernel
theorem dX5_told_3 : decode cX5_told 3 = .ok (.aload_n 0, 1) := by decide +kernel
theorem dX5_told_4 : decode cX5_told 4 = .ok (.getfield 7, 3) := by decide +kernel
theorem dX5_told_7 : decode cX5_told 7 = .ok (.iload_n 1, 1) := by decide +kernel
theorem dX5_told_8 : decode cX5_told 8 = .ok (.bipush 14, 2) := by decide +kernel
theorem dX5_told_10 : decode cX5_told 10 = .ok (.iadd, 1) := by decide +kernel
theorem dX5_told_11 : decode cX5_told 11 = .ok (.iaload, 1) := by decide +kernel
theorem dX5_told_12 : decode cX5_told 12 = .ok (.bipush 100, 2) := by decide +kernel
theorem dX5_told_14 : decode cX5_told 14 = .ok (.iadd, 1) := by decide +kernel
theorem dX5_told_15 : decode cX5_told 15 = .ok (.imul, 1) := by decide +kernel
theorem dX5_told_16 : decode cX5_told 16 = .ok (.aload_n 0, 1) := by decide +kernel
theorem dX5_told_17 : decode cX5_told 17 = .ok (.getfield 7, 3) := by decide +kernel
theorem dX5_told_20 : decode cX5_told 20 = .ok (.iload_n 1, 1) := by decide +kernel
theorem dX5_told_21 : decode cX5_told 21 = .ok (.bipush 14, 2) := by decide +kernel
theorem dX5_told_23 : decode cX5_told 23 = .ok (.iadd, 1) := by decide +kernel
theorem dX5_told_24 : decode cX5_told 24 = .ok (.iconst 1, 1) := by decide +kernel
theorem dX5_told_25 : decode cX5_told 25 = .ok (.iadd, 1) := by decide +kernel
theorem dX5_told_26 : decode cX5_told 26 = .ok (.iaload, 1) := by decide +kernel
theorem dX5_told_27 : decode cX5_told 27 = .ok (.iadd, 1) := by decide +kernel
theorem dX5_told_28 : decode cX5_told 28 = .ok (.bipush 100, 2) := by decide +kernel
theorem dX5_told_30 : decode cX5_told 30 = .ok (.iadd, 1) := by decide +kernel
theorem dX5_told_31 : decode cX5_told 31 = .ok (.ireturn, 1) := by decide +kernel
theorem dX5_lowOf_0 : decode cX5_lowOf 0 = .ok (.iload_n 0, 1) := by decide +kernel
theorem dX5_lowOf_1 : decode cX5_lowOf 1 = .ok (.tableswitch 45 2 6 #[35, 37, 40, 43, 35], 35) := by decide +kernel
theorem dX5_lowOf_36 : decode cX5_lowOf 36 = .ok (.iconst 0, 1) := by decide +kernel
theorem dX5_lowOf_37 : decode cX5_lowOf 37 = .ok (.ireturn, 1) := by decide +kernel
theorem dX5_lowOf_38 : decode cX5_lowOf 38 = .ok (.bipush 60, 2) := by decide +kernel
theorem dX5_lowOf_40 : decode cX5_lowOf 40 = .ok (.ireturn, 1) := by decide +kernel
theorem dX5_lowOf_41 : decode cX5_lowOf 41 = .ok (.bipush 100, 2) := by decide +kernel
theorem dX5_lowOf_43 : decode cX5_lowOf 43 = .ok (.ireturn, 1) := by decide +kernel
theorem dX5_lowOf_44 : decode cX5_lowOf 44 = .ok (.iconst 2, 1) := by decide +kernel
theorem dX5_lowOf_45 : decode cX5_lowOf 45 = .ok (.ireturn, 1) := by decide +kernel
theorem dX5_lowOf_46 : decode cX5_lowOf 46 = .ok (.iconst 1, 1) := by decide +kernel
theorem dX5_lowOf_47 : decode cX5_lowOf 47 = .ok (.ireturn, 1) := by decide +kernel
theorem dX5_highOf_0 : decode cX5_highOf 0 = .ok (.iload_n 0, 1) := by decide +kernel
theorem dX5_highOf_1 : decode cX5_highOf 1 = .ok (.tableswitch 55 0 5 #[39, 42, 55, 45, 48, 52], 39) := by decide +kernel
theorem dX5_highOf_40 : decode cX5_highOf 40 = .ok (.bipush 64, 2) := by decide +kernel
theorem dX5_highOf_42 : decode cX5_highOf 42 = .ok (.ireturn, 1) := by decide +kernel
theorem dX5_highOf_43 : decode cX5_highOf 43 = .ok (.bipush 30, 2) := by decide +kernel
theorem dX5_highOf_45 : decode cX5_highOf 45 = .ok (.ireturn, 1) := by decide +kernel
theorem dX5_highOf_46 : decode cX5_highOf 46 = .ok (.bipush 127, 2) := by decide +kernel
theorem dX5_highOf_48 : decode cX5_highOf 48 = .ok (.ireturn, 1) := by decide +kernel
theorem dX5_highOf_49 : decode cX5_highOf 49 = .ok (.sipush 200, 3) := by decide +kernel
theorem dX5_highOf_52 : decode cX5_highOf 52 = .ok (.ireturn, 1) := by decide +kernel
theorem dX5_highOf_53 : decode cX5_highOf 53 = .ok (.bipush 60, 2) := by decide +kernel
theorem dX5_highOf_55 : decode cX5_highOf 55 = .ok (.ireturn, 1) := by decide +kernel
theorem dX5_highOf_56 : decode cX5_highOf 56 = .ok (.bipush 20, 2) := by decide +kernel
theorem dX5_highOf_58 : decode cX5_highOf 58 = .ok (.ireturn, 1) := by decide +kernel
theorem dX5_set_0 : decode cX5_set 0 = .ok (.iload_n 1, 1) := by decide +kernel
theorem dX5_set_1 : decode cX5_set 1 = .ok (.iconst 0, 1) := by decide +kernel
theorem dX5_set_2 : decode cX5_set 2 = .ok (.bipush 6, 2) := by decide +kernel
theorem dX5_set_4 : decode cX5_set 4 = .ok (.invokestatic 26, 3) := by decide +kernel
theorem dX5_set_7 : decode cX5_set 7 = .ok (.ifCond .eq 18, 3) := by decide +kernel
theorem dX5_set_10 : decode cX5_set 10 = .ok (.iload_n 2, 1) := by decide +kernel
theorem dX5_set_11 : decode cX5_set 11 = .ok (.iload_n 1, 1) := by decide +kernel
theorem dX5_set_12 : decode cX5_set 12 = .ok (.invokestatic 73, 3) := by decide +kernel
theorem dX5_set_15 : decode cX5_set 15 = .ok (.iload_n 1, 1) := by decide +kernel
theorem dX5_set_16 : decode cX5_set 16 = .ok (.invokestatic 76, 3) := by decide +kernel
theorem dX5_set_19 : decode cX5_set 19 = .ok (.invokestatic 26, 3) := by decide +kernel
theorem dX5_set_22 : decode cX5_set 22 = .ok (.ifCond .ne 6, 3) := by decide +kernel
theorem dX5_set_25 : decode cX5_set 25 = .ok (.bipush (-2), 2) := by decide +kernel
theorem dX5_set_27 : decode cX5_set 27 = .ok (.ireturn, 1) := by decide +kernel
theorem dX5_set_28 : decode cX5_set 28 = .ok (.aload_n 0, 1) := by decide +kernel
theorem dX5_set_29 : decode cX5_set 29 = .ok (.invokevirtual 79, 3) := by decide +kernel
theorem dX5_set_32 : decode cX5_set 32 = .ok (.aload_n 0, 1) := by decide +kernel
theorem dX5_set_33 : decode cX5_set 33 = .ok (.getfield 7, 3) := by decide +kernel
theorem dX5_set_36 : decode cX5_set 36 = .ok (.iload_n 1, 1) := by decide +kernel
theorem dX5_set_37 : decode cX5_set 37 = .ok (.iaload, 1) := by decide +kernel
theorem dX5_set_38 : decode cX5_set 38 = .ok (.istore_n 3, 1) := by decide +kernel
theorem dX5_set_39 : decode cX5_set 39 = .ok (.aload_n 0, 1) := by decide +kernel
theorem dX5_set_40 : decode cX5_set 40 = .ok (.getfield 7, 3) := by decide +kernel
theorem dX5_set_43 : decode cX5_set 43 = .ok (.iload_n 1, 1) := by decide +kernel
theorem dX5_set_44 : decode cX5_set 44 = .ok (.iload_n 2, 1) := by decide +kernel
theorem dX5_set_45 : decode cX5_set 45 = .ok (.iastore, 1) := by decide +kernel
theorem dX5_set_46 : decode cX5_set 46 = .ok (.iload_n 1, 1) := by decide +kernel
theorem dX5_set_47 : decode cX5_set 47 = .ok (.iconst 1, 1) := by decide +kernel
theorem dX5_set_48 : decode cX5_set 48 = .ok (.if_icmp .eq 8, 3) := by decide +kernel
theorem dX5_set_51 : decode cX5_set 51 = .ok (.iload_n 1, 1) := by decide +kernel
theorem dX5_set_52 : decode cX5_set 52 = .ok (.iconst 2, 1) := by decide +kernel
theorem dX5_set_53 : decode cX5_set 53 = .ok (.if_icmp .ne 16, 3) := by decide +kernel
theorem dX5_set_56 : decode cX5_set 56 = .ok (.aload_n 0, 1) := by decide +kernel
theorem dX5_set_57 : decode cX5_set 57 = .ok (.getfield 7, 3) := by decide +kernel
theorem dX5_set_60 : decode cX5_set 60 = .ok (.bipush 9, 2) := by decide +kernel
theorem dX5_set_62 : decode cX5_set 62 = .ok (.aload_n 0, 1) := by decide +kernel
theorem dX5_set_63 : decode cX5_set 63 = .ok (.getfield 7, 3) := by decide +kernel
theorem dX5_set_66 : decode cX5_set 66 = .ok (.iconst 1, 1) := by decide +kernel
theorem dX5_set_67 : decode cX5_set 67 = .ok (.iaload, 1) := by decide +kernel
theorem dX5_set_68 : decode cX5_set 68 = .ok (.iastore, 1) := by decide +kernel
theorem dX5_set_69 : decode cX5_set 69 = .ok (.iload_n 3, 1) := by decide +kernel
theorem dX5_set_70 : decode cX5_set 70 = .ok (.ireturn, 1) := by decide +kernel
theorem dX5_whyNot_0 : decode cX5_whyNot 0 = .ok (.iload_n 1, 1) := by decide +kernel
theorem dX5_whyNot_1 : decode cX5_whyNot 1 = .ok (.iload_n 2, 1) := by decide +kernel
theorem dX5_whyNot_2 : decode cX5_whyNot 2 = .ok (.invokestatic 82, 3) := by decide +kernel
theorem dX5_whyNot_5 : decode cX5_whyNot 5 = .ok (.ifCond .ne 8, 3) := by decide +kernel
theorem dX5_whyNot_8 : decode cX5_whyNot 8 = .ok (.bipush (-2), 2) := by decide +kernel
theorem dX5_whyNot_10 : decode cX5_whyNot 10 = .ok (.goto 24, 3) := by decide +kernel
theorem dX5_whyNot_13 : decode cX5_whyNot 13 = .ok (.aload_n 0, 1) := by decide +kernel
theorem dX5_whyNot_14 : decode cX5_whyNot 14 = .ok (.getfield 7, 3) := by decide +kernel
theorem dX5_whyNot_17 : decode cX5_whyNot 17 = .ok (.bipush 21, 2) := by decide +kernel
theorem dX5_whyNot_19 : decode cX5_whyNot 19 = .ok (.iaload, 1) := by decide +kernel
theorem dX5_whyNot_20 : decode cX5_whyNot 20 = .ok (.iload_n 3, 1) := by decide +kernel
theorem dX5_whyNot_21 : decode cX5_whyNot 21 = .ok (.iadd, 1) := by decide +kernel
theorem dX5_whyNot_22 : decode cX5_whyNot 22 = .ok (.sipush 9999, 3) := by decide +kernel
theorem dX5_whyNot_25 : decode cX5_whyNot 25 = .ok (.if_icmp .le 8, 3) := by decide +kernel
theorem dX5_whyNot_28 : decode cX5_whyNot 28 = .ok (.bipush (-5), 2) := by decide +kernel
theorem dX5_whyNot_30 : decode cX5_whyNot 30 = .ok (.goto 4, 3) := by decide +kernel
theorem dX5_whyNot_33 : decode cX5_whyNot 33 = .ok (.iconst 0, 1) := by decide +kernel
theorem dX5_whyNot_34 : decode cX5_whyNot 34 = .ok (.ireturn, 1) := by decide +kernel
theorem dX5_sample_0 : decode cX5_sample 0 = .ok (.aload_n 0, 1) := by decide +kernel
theorem dX5_sample_1 : decode cX5_sample 1 = .ok (.iload_n 1, 1) := by decide +kernel
theorem dX5_sample_2 : decode cX5_sample 2 = .ok (.iload_n 2, 1) := by decide +kernel
theorem dX5_sample_3 : decode cX5_sample 3 = .ok (.iconst 1, 1) := by decide +kernel
theorem dX5_sample_4 : decode cX5_sample 4 = .ok (.invokevirtual 86, 3) := by decide +kernel
theorem dX5_sample_7 : decode cX5_sample 7 = .ok (.istore_n 3, 1) := by decide +kernel
theorem dX5_sample_8 : decode cX5_sample 8 = .ok (.iload_n 3, 1) := by decide +kernel
theorem dX5_sample_9 : decode cX5_sample 9 = .ok (.ifCond .ge 5, 3) := by decide +kernel
theorem dX5_sample_12 : decode cX5_sample 12 = .ok (.iload_n 3, 1) := by decide +kernel
theorem dX5_sample_13 : decode cX5_sample 13 = .ok (.ireturn, 1) := by decide +kernel
theorem dX5_sample_14 : decode cX5_sample 14 = .ok (.aload_n 0, 1) := by decide +kernel
theorem dX5_sample_15 : decode cX5_sample 15 = .ok (.invokevirtual 79, 3) := by decide +kernel
theorem dX5_sample_18 : decode cX5_sample 18 = .ok (.aload_n 0, 1) := by decide +kernel
theorem dX5_sample_19 : decode cX5_sample 19 = .ok (.iconst 0, 1) := by decide +kernel
theorem dX5_sample_20 : decode cX5_sample 20 = .ok (.iload_n 1, 1) := by decide +kernel
theorem dX5_sample_21 : decode cX5_sample 21 = .ok (.iload_n 2, 1) := by decide +kernel
theorem dX5_sample_22 : decode cX5_sample 22 = .ok (.invokevirtual 89, 3) := by decide +kernel
theorem dX5_sample_25 : decode cX5_sample 25 = .ok (.aload_n 0, 1) := by decide +kernel
theorem dX5_sample_26 : decode cX5_sample 26 = .ok (.iconst 0, 1) := by decide +kernel
theorem dX5_sample_27 : decode cX5_sample 27 = .ok (.invokevirtual 92, 3) := by decide +kernel
theorem dX5_sample_30 : decode cX5_sample 30 = .ok (.ireturn, 1) := by decide +kernel
theorem dX5_hold_0 : decode cX5_hold 0 = .ok (.iload_n 3, 1) := by decide +kernel
theorem dX5_hold_1 : decode cX5_hold 1 = .ok (.iconst 1, 1) := by decide +kernel
theorem dX5_hold_2 : decode cX5_hold 2 = .ok (.sipush 200, 3) := by decide +kernel
theorem dX5_hold_5 : decode cX5_hold 5 = .ok (.invokestatic 26, 3) := by decide +kernel
theorem dX5_hold_8 : decode cX5_hold 8 = .ok (.ifCond .eq 13, 3) := by decide +kernel
theorem dX5_hold_11 : decode cX5_hold 11 = .ok (.aload_n 0, 1) := by decide +kernel
theorem dX5_hold_12 : decode cX5_hold 12 = .ok (.iload_n 1, 1) := by decide +kernel
theorem dX5_hold_13 : decode cX5_hold 13 = .ok (.iload_n 2, 1) := by decide +kernel
theorem dX5_hold_14 : decode cX5_hold 14 = .ok (.iload_n 3, 1) := by decide +kernel
theorem dX5_hold_15 : decode cX5_hold 15 = .ok (.invokevirtual 86, 3) := by decide +kernel
theorem dX5_hold_18 : decode cX5_hold 18 = .ok (.goto 5, 3) := by decide +kernel
theorem dX5_hold_21 : decode cX5_hold 21 = .ok (.bipush (-2), 2) := by decide +kernel
theorem dX5_hold_23 : decode cX5_hold 23 = .ok (.istore 4, 2) := by decide +kernel
theorem dX5_hold_25 : decode cX5_hold 25 = .ok (.iload 4, 2) := by decide +kernel
theorem dX5_hold_27 : decode cX5_hold 27 = .ok (.ifCond .ge 6, 3) := by decide +kernel
theorem dX5_hold_30 : decode cX5_hold 30 = .ok (.iload 4, 2) := by decide +kernel
theorem dX5_hold_32 : decode cX5_hold 32 = .ok (.ireturn, 1) := by decide +kernel
theorem dX5_hold_33 : decode cX5_hold 33 = .ok (.aload_n 0, 1) := by decide +kernel
theorem dX5_hold_34 : decode cX5_hold 34 = .ok (.invokevirtual 79, 3) := by decide +kernel
theorem dX5_hold_37 : decode cX5_hold 37 = .ok (.iconst 0, 1) := by decide +kernel
theorem dX5_hold_38 : decode cX5_hold 38 = .ok (.istore 5, 2) := by decide +kernel
theorem dX5_hold_40 : decode cX5_hold 40 = .ok (.iload 5, 2) := by decide +kernel
theorem dX5_hold_42 : decode cX5_hold 42 = .ok (.iload_n 3, 1) := by decide +kernel
theorem dX5_hold_43 : decode cX5_hold 43 = .ok (.if_icmp .ge 16, 3) := by decide +kernel
theorem dX5_hold_46 : decode cX5_hold 46 = .ok (.aload_n 0, 1) := by decide +kernel
theorem dX5_hold_47 : decode cX5_hold 47 = .ok (.iconst 0, 1) := by decide +kernel
theorem dX5_hold_48 : decode cX5_hold 48 = .ok (.iload_n 1, 1) := by decide +kernel
theorem dX5_hold_49 : decode cX5_hold 49 = .ok (.iload_n 2, 1) := by decide +kernel
theorem dX5_hold_50 : decode cX5_hold 50 = .ok (.invokevirtual 89, 3) := by decide +kernel
theorem dX5_hold_53 : decode cX5_hold 53 = .ok (.iinc 5 1, 3) := by decide +kernel
theorem dX5_hold_56 : decode cX5_hold 56 = .ok (.goto (-16), 3) := by decide +kernel
theorem dX5_hold_59 : decode cX5_hold 59 = .ok (.aload_n 0, 1) := by decide +kernel
theorem dX5_hold_60 : decode cX5_hold 60 = .ok (.iconst 0, 1) := by decide +kernel
theorem dX5_hold_61 : decode cX5_hold 61 = .ok (.invokevirtual 92, 3) := by decide +kernel
theorem dX5_hold_64 : decode cX5_hold 64 = .ok (.ireturn, 1) := by decide +kernel
theorem dX5_isDown_0 : decode cX5_isDown 0 = .ok (.aload_n 0, 1) := by decide +kernel
theorem dX5_isDown_1 : decode cX5_isDown 1 = .ok (.getfield 7, 3) := by decide +kernel
theorem dX5_isDown_4 : decode cX5_isDown 4 = .ok (.bipush 18, 2) := by decide +kernel
theorem dX5_isDown_6 : decode cX5_isDown 6 = .ok (.iaload, 1) := by decide +kernel
theorem dX5_isDown_7 : decode cX5_isDown 7 = .ok (.iload_n 1, 1) := by decide +kernel
theorem dX5_isDown_8 : decode cX5_isDown 8 = .ok (.ishr, 1) := by decide +kernel
theorem dX5_isDown_9 : decode cX5_isDown 9 = .ok (.iconst 1, 1) := by decide +kernel
theorem dX5_isDown_10 : decode cX5_isDown 10 = .ok (.iand, 1) := by decide +kernel
theorem dX5_isDown_11 : decode cX5_isDown 11 = .ok (.iconst 1, 1) := by decide +kernel
theorem dX5_isDown_12 : decode cX5_isDown 12 = .ok (.if_icmp .ne 7, 3) := by decide +kernel
theorem dX5_isDown_15 : decode cX5_isDown 15 = .ok (.iconst 1, 1) := by decide +kernel
theorem dX5_isDown_16 : decode cX5_isDown 16 = .ok (.goto 4, 3) := by decide +kernel
theorem dX5_isDown_19 : decode cX5_isDown 19 = .ok (.iconst 0, 1) := by decide +kernel
theorem dX5_isDown_20 : decode cX5_isDown 20 = .ok (.ireturn, 1) := by decide +kernel
theorem dX5_whyNotPress_0 : decode cX5_whyNotPress 0 = .ok (.iload_n 1, 1) := by decide +kernel
theorem dX5_whyNotPress_1 : decode cX5_whyNotPress 1 = .ok (.iconst 0, 1) := by decide +kernel
theorem dX5_whyNotPress_2 : decode cX5_whyNotPress 2 = .ok (.bipush 7, 2) := by decide +kernel
theorem dX5_whyNotPress_4 : decode cX5_whyNotPress 4 = .ok (.invokestatic 26, 3) := by decide +kernel
theorem dX5_whyNotPress_7 : decode cX5_whyNotPress 7 = .ok (.ifCond .ne 7, 3) := by decide +kernel
theorem dX5_whyNotPress_10 : decode cX5_whyNotPress 10 = .ok (.iconst (-1), 1) := by decide +kernel
theorem dX5_whyNotPress_11 : decode cX5_whyNotPress 11 = .ok (.goto 18, 3) := by decide +kernel
theorem dX5_whyNotPress_14 : decode cX5_whyNotPress 14 = .ok (.aload_n 0, 1) := by decide +kernel
theorem dX5_whyNotPress_15 : decode cX5_whyNotPress 15 = .ok (.iload_n 1, 1) := by decide +kernel
theorem dX5_whyNotPress_16 : decode cX5_whyNotPress 16 = .ok (.invokevirtual 95, 3) := by decide +kernel
theorem dX5_whyNotPress_19 : decode cX5_whyNotPress 19 = .ok (.iload_n 2, 1) := by decide +kernel
theorem dX5_whyNotPress_20 : decode cX5_whyNotPress 20 = .ok (.if_icmp .ne 8, 3) := by decide +kernel
theorem dX5_whyNotPress_23 : decode cX5_whyNotPress 23 = .ok (.bipush (-5), 2) := by decide +kernel
theorem dX5_whyNotPress_25 : decode cX5_whyNotPress 25 = .ok (.goto 4, 3) := by decide +kernel
theorem dX5_whyNotPress_28 : decode cX5_whyNotPress 28 = .ok (.iconst 0, 1) := by decide +kernel
theorem dX5_whyNotPress_29 : decode cX5_whyNotPress 29 = .ok (.ireturn, 1) := by decide +kernel
theorem dX5_presses_0 : decode cX5_presses 0 = .ok (.aload_n 0, 1) := by decide +kernel
theorem dX5_presses_1 : decode cX5_presses 1 = .ok (.getfield 7, 3) := by decide +kernel
theorem dX5_presses_4 : decode cX5_presses 4 = .ok (.bipush 18, 2) := by decide +kernel
theorem dX5_presses_6 : decode cX5_presses 6 = .ok (.dup2, 1) := by decide +kernel
theorem dX5_presses_7 : decode cX5_presses 7 = .ok (.iaload, 1) := by decide +kernel
theorem dX5_presses_8 : decode cX5_presses 8 = .ok (.iconst 1, 1) := by decide +kernel
theorem dX5_presses_9 : decode cX5_presses 9 = .ok (.iload_n 1, 1) := by decide +kernel
theorem dX5_presses_10 : decode cX5_presses 10 = .ok (.ishl, 1) := by decide +kernel
theorem dX5_presses_11 : decode cX5_presses 11 = .ok (.ior, 1) := by decide +kernel
theorem dX5_presses_12 : decode cX5_presses 12 = .ok (.iastore, 1) := by decide +kernel
theorem dX5_presses_13 : decode cX5_presses 13 = .ok (.aload_n 0, 1) := by decide +kernel
theorem dX5_presses_14 : decode cX5_presses 14 = .ok (.getfield 7, 3) := by decide +kernel
theorem dX5_presses_17 : decode cX5_presses 17 = .ok (.bipush 13, 2) := by decide +kernel
theorem dX5_presses_19 : decode cX5_presses 19 = .ok (.aload_n 0, 1) := by decide +kernel
theorem dX5_presses_20 : decode cX5_presses 20 = .ok (.getfield 7, 3) := by decide +kernel
theorem dX5_presses_23 : decode cX5_presses 23 = .ok (.bipush 6, 2) := by decide +kernel
theorem dX5_presses_25 : decode cX5_presses 25 = .ok (.iaload, 1) := by decide +kernel
theorem dX5_presses_26 : decode cX5_presses 26 = .ok (.iastore, 1) := by decide +kernel
theorem dX5_presses_27 : decode cX5_presses 27 = .ok (.aload_n 0, 1) := by decide +kernel
theorem dX5_presses_28 : decode cX5_presses 28 = .ok (.getfield 7, 3) := by decide +kernel
theorem dX5_presses_31 : decode cX5_presses 31 = .ok (.bipush 18, 2) := by decide +kernel
theorem dX5_presses_33 : decode cX5_presses 33 = .ok (.iaload, 1) := by decide +kernel
theorem dX5_presses_34 : decode cX5_presses 34 = .ok (.ireturn, 1) := by decide +kernel
theorem dX5_letsUp_0 : decode cX5_letsUp 0 = .ok (.aload_n 0, 1) := by decide +kernel
theorem dX5_letsUp_1 : decode cX5_letsUp 1 = .ok (.getfield 7, 3) := by decide +kernel
theorem dX5_letsUp_4 : decode cX5_letsUp 4 = .ok (.bipush 18, 2) := by decide +kernel
theorem dX5_letsUp_6 : decode cX5_letsUp 6 = .ok (.dup2, 1) := by decide +kernel
theorem dX5_letsUp_7 : decode cX5_letsUp 7 = .ok (.iaload, 1) := by decide +kernel
theorem dX5_letsUp_8 : decode cX5_letsUp 8 = .ok (.iconst 1, 1) := by decide +kernel
theorem dX5_letsUp_9 : decode cX5_letsUp 9 = .ok (.iload_n 1, 1) := by decide +kernel
theorem dX5_letsUp_10 : decode cX5_letsUp 10 = .ok (.ishl, 1) := by decide +kernel
theorem dX5_letsUp_11 : decode cX5_letsUp 11 = .ok (.iconst (-1), 1) := by decide +kernel
theorem dX5_letsUp_12 : decode cX5_letsUp 12 = .ok (.ixor, 1) := by decide +kernel
theorem dX5_letsUp_13 : decode cX5_letsUp 13 = .ok (.iand, 1) := by decide +kernel
theorem dX5_letsUp_14 : decode cX5_letsUp 14 = .ok (.iastore, 1) := by decide +kernel
theorem dX5_letsUp_15 : decode cX5_letsUp 15 = .ok (.aload_n 0, 1) := by decide +kernel
theorem dX5_letsUp_16 : decode cX5_letsUp 16 = .ok (.getfield 7, 3) := by decide +kernel
theorem dX5_letsUp_19 : decode cX5_letsUp 19 = .ok (.bipush 18, 2) := by decide +kernel
theorem dX5_letsUp_21 : decode cX5_letsUp 21 = .ok (.iaload, 1) := by decide +kernel
theorem dX5_letsUp_22 : decode cX5_letsUp 22 = .ok (.ireturn, 1) := by decide +kernel
theorem dX5_press_0 : decode cX5_press 0 = .ok (.aload_n 0, 1) := by decide +kernel
theorem dX5_press_1 : decode cX5_press 1 = .ok (.iload_n 1, 1) := by decide +kernel
theorem dX5_press_2 : decode cX5_press 2 = .ok (.iconst 1, 1) := by decide +kernel
theorem dX5_press_3 : decode cX5_press 3 = .ok (.invokevirtual 98, 3) := by decide +kernel
theorem dX5_press_6 : decode cX5_press 6 = .ok (.istore_n 2, 1) := by decide +kernel
theorem dX5_press_7 : decode cX5_press 7 = .ok (.iload_n 2, 1) := by decide +kernel
theorem dX5_press_8 : decode cX5_press 8 = .ok (.ifCond .ge 5, 3) := by decide +kernel
theorem dX5_press_11 : decode cX5_press 11 = .ok (.iload_n 2, 1) := by decide +kernel
theorem dX5_press_12 : decode cX5_press 12 = .ok (.ireturn, 1) := by decide +kernel
theorem dX5_press_13 : decode cX5_press 13 = .ok (.aload_n 0, 1) := by decide +kernel
theorem dX5_press_14 : decode cX5_press 14 = .ok (.invokevirtual 79, 3) := by decide +kernel
theorem dX5_press_17 : decode cX5_press 17 = .ok (.aload_n 0, 1) := by decide +kernel
theorem dX5_press_18 : decode cX5_press 18 = .ok (.iload_n 1, 1) := by decide +kernel
theorem dX5_press_19 : decode cX5_press 19 = .ok (.invokevirtual 102, 3) := by decide +kernel
theorem dX5_press_22 : decode cX5_press 22 = .ok (.ireturn, 1) := by decide +kernel
theorem dX5_letUp_0 : decode cX5_letUp 0 = .ok (.aload_n 0, 1) := by decide +kernel
theorem dX5_letUp_1 : decode cX5_letUp 1 = .ok (.iload_n 1, 1) := by decide +kernel
theorem dX5_letUp_2 : decode cX5_letUp 2 = .ok (.iconst 0, 1) := by decide +kernel
theorem dX5_letUp_3 : decode cX5_letUp 3 = .ok (.invokevirtual 98, 3) := by decide +kernel
theorem dX5_letUp_6 : decode cX5_letUp 6 = .ok (.istore_n 2, 1) := by decide +kernel
theorem dX5_letUp_7 : decode cX5_letUp 7 = .ok (.iload_n 2, 1) := by decide +kernel
theorem dX5_letUp_8 : decode cX5_letUp 8 = .ok (.ifCond .ge 5, 3) := by decide +kernel
theorem dX5_letUp_11 : decode cX5_letUp 11 = .ok (.iload_n 2, 1) := by decide +kernel
theorem dX5_letUp_12 : decode cX5_letUp 12 = .ok (.ireturn, 1) := by decide +kernel
theorem dX5_letUp_13 : decode cX5_letUp 13 = .ok (.aload_n 0, 1) := by decide +kernel
theorem dX5_letUp_14 : decode cX5_letUp 14 = .ok (.invokevirtual 79, 3) := by decide +kernel
theorem dX5_letUp_17 : decode cX5_letUp 17 = .ok (.aload_n 0, 1) := by decide +kernel
theorem dX5_letUp_18 : decode cX5_letUp 18 = .ok (.iload_n 1, 1) := by decide +kernel
theorem dX5_letUp_19 : decode cX5_letUp 19 = .ok (.invokevirtual 105, 3) := by decide +kernel
theorem dX5_letUp_22 : decode cX5_letUp 22 = .ok (.ireturn, 1) := by decide +kernel
theorem dX5_reset_0 : decode cX5_reset 0 = .ok (.aload_n 0, 1) := by decide +kernel
theorem dX5_reset_1 : decode cX5_reset 1 = .ok (.invokevirtual 79, 3) := by decide +kernel
theorem dX5_reset_4 : decode cX5_reset 4 = .ok (.aload_n 0, 1) := by decide +kernel
theorem dX5_reset_5 : decode cX5_reset 5 = .ok (.getfield 7, 3) := by decide +kernel
theorem dX5_reset_8 : decode cX5_reset 8 = .ok (.bipush 7, 2) := by decide +kernel
theorem dX5_reset_10 : decode cX5_reset 10 = .ok (.iaload, 1) := by decide +kernel
theorem dX5_reset_11 : decode cX5_reset 11 = .ok (.sipush 2048, 3) := by decide +kernel
theorem dX5_reset_14 : decode cX5_reset 14 = .ok (.isub, 1) := by decide +kernel
theorem dX5_reset_15 : decode cX5_reset 15 = .ok (.invokestatic 38, 3) := by decide +kernel
theorem dX5_reset_18 : decode cX5_reset 18 = .ok (.aload_n 0, 1) := by decide +kernel
theorem dX5_reset_19 : decode cX5_reset 19 = .ok (.getfield 7, 3) := by decide +kernel
theorem dX5_reset_22 : decode cX5_reset 22 = .ok (.bipush 8, 2) := by decide +kernel
theorem dX5_reset_24 : decode cX5_reset 24 = .ok (.iaload, 1) := by decide +kernel
theorem dX5_reset_25 : decode cX5_reset 25 = .ok (.sipush 2048, 3) := by decide +kernel
theorem dX5_reset_28 : decode cX5_reset 28 = .ok (.isub, 1) := by decide +kernel
theorem dX5_reset_29 : decode cX5_reset 29 = .ok (.invokestatic 38, 3) := by decide +kernel
theorem dX5_reset_32 : decode cX5_reset 32 = .ok (.iadd, 1) := by decide +kernel
theorem dX5_reset_33 : decode cX5_reset 33 = .ok (.istore_n 1, 1) := by decide +kernel
theorem dX5_reset_34 : decode cX5_reset 34 = .ok (.aload_n 0, 1) := by decide +kernel
theorem dX5_reset_35 : decode cX5_reset 35 = .ok (.getfield 7, 3) := by decide +kernel
theorem dX5_reset_38 : decode cX5_reset 38 = .ok (.bipush 7, 2) := by decide +kernel
theorem dX5_reset_40 : decode cX5_reset 40 = .ok (.sipush 2048, 3) := by decide +kernel
theorem dX5_reset_43 : decode cX5_reset 43 = .ok (.iastore, 1) := by decide +kernel
theorem dX5_reset_44 : decode cX5_reset 44 = .ok (.aload_n 0, 1) := by decide +kernel
theorem dX5_reset_45 : decode cX5_reset 45 = .ok (.getfield 7, 3) := by decide +kernel
theorem dX5_reset_48 : decode cX5_reset 48 = .ok (.bipush 8, 2) := by decide +kernel
theorem dX5_reset_50 : decode cX5_reset 50 = .ok (.sipush 2048, 3) := by decide +kernel
theorem dX5_reset_53 : decode cX5_reset 53 = .ok (.iastore, 1) := by decide +kernel
theorem dX5_reset_54 : decode cX5_reset 54 = .ok (.aload_n 0, 1) := by decide +kernel
theorem dX5_reset_55 : decode cX5_reset 55 = .ok (.getfield 7, 3) := by decide +kernel
theorem dX5_reset_58 : decode cX5_reset 58 = .ok (.bipush 9, 2) := by decide +kernel
theorem dX5_reset_60 : decode cX5_reset 60 = .ok (.aload_n 0, 1) := by decide +kernel
theorem dX5_reset_61 : decode cX5_reset 61 = .ok (.getfield 7, 3) := by decide +kernel
theorem dX5_reset_64 : decode cX5_reset 64 = .ok (.iconst 1, 1) := by decide +kernel
theorem dX5_reset_65 : decode cX5_reset 65 = .ok (.iaload, 1) := by decide +kernel
theorem dX5_reset_66 : decode cX5_reset 66 = .ok (.iastore, 1) := by decide +kernel
theorem dX5_reset_67 : decode cX5_reset 67 = .ok (.aload_n 0, 1) := by decide +kernel
theorem dX5_reset_68 : decode cX5_reset 68 = .ok (.getfield 7, 3) := by decide +kernel
theorem dX5_reset_71 : decode cX5_reset 71 = .ok (.bipush 12, 2) := by decide +kernel
theorem dX5_reset_73 : decode cX5_reset 73 = .ok (.iconst 0, 1) := by decide +kernel
theorem dX5_reset_74 : decode cX5_reset 74 = .ok (.iastore, 1) := by decide +kernel
theorem dX5_reset_75 : decode cX5_reset 75 = .ok (.iload_n 1, 1) := by decide +kernel
theorem dX5_reset_76 : decode cX5_reset 76 = .ok (.ireturn, 1) := by decide +kernel
theorem dX5_of_0 : decode cX5_of 0 = .ok (.iload_n 1, 1) := by decide +kernel
theorem dX5_of_1 : decode cX5_of 1 = .ok (.iconst 0, 1) := by decide +kernel
theorem dX5_of_2 : decode cX5_of 2 = .ok (.iconst 1, 1) := by decide +kernel
theorem dX5_of_3 : decode cX5_of 3 = .ok (.invokestatic 26, 3) := by decide +kernel
theorem dX5_of_6 : decode cX5_of 6 = .ok (.ifCond .ne 5, 3) := by decide +kernel
theorem dX5_of_9 : decode cX5_of 9 = .ok (.iconst (-1), 1) := by decide +kernel
theorem dX5_of_10 : decode cX5_of 10 = .ok (.ireturn, 1) := by decide +kernel
theorem dX5_of_11 : decode cX5_of 11 = .ok (.aload_n 0, 1) := by decide +kernel
theorem dX5_of_12 : decode cX5_of 12 = .ok (.getfield 7, 3) := by decide +kernel
theorem dX5_of_15 : decode cX5_of 15 = .ok (.bipush 10, 2) := by decide +kernel
theorem dX5_of_17 : decode cX5_of 17 = .ok (.iload_n 1, 1) := by decide +kernel
theorem dX5_of_18 : decode cX5_of 18 = .ok (.iadd, 1) := by decide +kernel
theorem dX5_of_19 : decode cX5_of 19 = .ok (.iaload, 1) := by decide +kernel
theorem dX5_of_20 : decode cX5_of 20 = .ok (.istore_n 3, 1) := by decide +kernel
theorem dX5_of_21 : decode cX5_of 21 = .ok (.iload_n 2, 1) := by decide +kernel
theorem dX5_of_22 : decode cX5_of 22 = .ok (.tableswitch 85 0 3 #[30, 40, 53, 64], 30) := by decide +kernel
theorem dX5_of_52 : decode cX5_of 52 = .ok (.aload_n 0, 1) := by decide +kernel
theorem dX5_of_53 : decode cX5_of 53 = .ok (.getfield 7, 3) := by decide +kernel
theorem dX5_of_56 : decode cX5_of 56 = .ok (.bipush 7, 2) := by decide +kernel
theorem dX5_of_58 : decode cX5_of 58 = .ok (.iload_n 1, 1) := by decide +kernel
theorem dX5_of_59 : decode cX5_of 59 = .ok (.iadd, 1) := by decide +kernel
theorem dX5_of_60 : decode cX5_of 60 = .ok (.iaload, 1) := by decide +kernel
theorem dX5_of_61 : decode cX5_of 61 = .ok (.ireturn, 1) := by decide +kernel
theorem dX5_of_62 : decode cX5_of 62 = .ok (.aload_n 0, 1) := by decide +kernel
theorem dX5_of_63 : decode cX5_of 63 = .ok (.getfield 7, 3) := by decide +kernel
theorem dX5_of_66 : decode cX5_of 66 = .ok (.bipush 14, 2) := by decide +kernel
theorem dX5_of_68 : decode cX5_of 68 = .ok (.iload_n 1, 1) := by decide +kernel
theorem dX5_of_69 : decode cX5_of 69 = .ok (.iadd, 1) := by decide +kernel
theorem dX5_of_70 : decode cX5_of 70 = .ok (.iaload, 1) := by decide +kernel
theorem dX5_of_71 : decode cX5_of 71 = .ok (.bipush 100, 2) := by decide +kernel
theorem dX5_of_73 : decode cX5_of 73 = .ok (.iadd, 1) := by decide +kernel
theorem dX5_of_74 : decode cX5_of 74 = .ok (.ireturn, 1) := by decide +kernel
theorem dX5_of_75 : decode cX5_of 75 = .ok (.iload_n 3, 1) := by decide +kernel
theorem dX5_of_76 : decode cX5_of 76 = .ok (.ifCond .ge 8, 3) := by decide +kernel
theorem dX5_of_79 : decode cX5_of 79 = .ok (.bipush (-6), 2) := by decide +kernel
theorem dX5_of_81 : decode cX5_of 81 = .ok (.goto 4, 3) := by decide +kernel
theorem dX5_of_84 : decode cX5_of 84 = .ok (.iload_n 3, 1) := by decide +kernel
theorem dX5_of_85 : decode cX5_of 85 = .ok (.ireturn, 1) := by decide +kernel
theorem dX5_of_86 : decode cX5_of 86 = .ok (.iload_n 3, 1) := by decide +kernel
theorem dX5_of_87 : decode cX5_of 87 = .ok (.ifCond .ge 8, 3) := by decide +kernel
theorem dX5_of_90 : decode cX5_of 90 = .ok (.bipush (-6), 2) := by decide +kernel
theorem dX5_of_92 : decode cX5_of 92 = .ok (.goto 14, 3) := by decide +kernel
theorem dX5_of_95 : decode cX5_of 95 = .ok (.aload_n 0, 1) := by decide +kernel
theorem dX5_of_96 : decode cX5_of 96 = .ok (.iconst 0, 1) := by decide +kernel
theorem dX5_of_97 : decode cX5_of 97 = .ok (.iload_n 1, 1) := by decide +kernel
theorem dX5_of_98 : decode cX5_of 98 = .ok (.iload_n 3, 1) := by decide +kernel
theorem dX5_of_99 : decode cX5_of 99 = .ok (.invokevirtual 34, 3) := by decide +kernel
theorem dX5_of_102 : decode cX5_of 102 = .ok (.sipush 1000, 3) := by decide +kernel
theorem dX5_of_105 : decode cX5_of 105 = .ok (.iadd, 1) := by decide +kernel
theorem dX5_of_106 : decode cX5_of 106 = .ok (.ireturn, 1) := by decide +kernel
theorem dX5_of_107 : decode cX5_of 107 = .ok (.bipush (-2), 2) := by decide +kernel
theorem dX5_of_109 : decode cX5_of 109 = .ok (.ireturn, 1) := by decide +kernel
theorem dX5_direction_0 : decode cX5_direction 0 = .ok (.iload_n 1, 1) := by decide +kernel
theorem dX5_direction_1 : decode cX5_direction 1 = .ok (.iconst 0, 1) := by decide +kernel
theorem dX5_direction_2 : decode cX5_direction 2 = .ok (.aload_n 0, 1) := by decide +kernel
theorem dX5_direction_3 : decode cX5_direction 3 = .ok (.getfield 7, 3) := by decide +kernel
theorem dX5_direction_6 : decode cX5_direction 6 = .ok (.bipush 22, 2) := by decide +kernel
theorem dX5_direction_8 : decode cX5_direction 8 = .ok (.iaload, 1) := by decide +kernel
theorem dX5_direction_9 : decode cX5_direction 9 = .ok (.iconst 1, 1) := by decide +kernel
theorem dX5_direction_10 : decode cX5_direction 10 = .ok (.isub, 1) := by decide +kernel
theorem dX5_direction_11 : decode cX5_direction 11 = .ok (.invokestatic 26, 3) := by decide +kernel
theorem dX5_direction_14 : decode cX5_direction 14 = .ok (.ifCond .ne 5, 3) := by decide +kernel
theorem dX5_direction_17 : decode cX5_direction 17 = .ok (.iconst (-1), 1) := by decide +kernel
theorem dX5_direction_18 : decode cX5_direction 18 = .ok (.ireturn, 1) := by decide +kernel
theorem dX5_direction_19 : decode cX5_direction 19 = .ok (.iload_n 2, 1) := by decide +kernel
theorem dX5_direction_20 : decode cX5_direction 20 = .ok (.iconst 0, 1) := by decide +kernel
theorem dX5_direction_21 : decode cX5_direction 21 = .ok (.iconst 3, 1) := by decide +kernel
theorem dX5_direction_22 : decode cX5_direction 22 = .ok (.invokestatic 26, 3) := by decide +kernel
theorem dX5_direction_25 : decode cX5_direction 25 = .ok (.ifCond .eq 19, 3) := by decide +kernel
theorem dX5_direction_28 : decode cX5_direction 28 = .ok (.aload_n 0, 1) := by decide +kernel
theorem dX5_direction_29 : decode cX5_direction 29 = .ok (.getfield 7, 3) := by decide +kernel
theorem dX5_direction_32 : decode cX5_direction 32 = .ok (.bipush 25, 2) := by decide +kernel
theorem dX5_direction_34 : decode cX5_direction 34 = .ok (.iconst 4, 1) := by decide +kernel
theorem dX5_direction_35 : decode cX5_direction 35 = .ok (.iload_n 1, 1) := by decide +kernel
theorem dX5_direction_36 : decode cX5_direction 36 = .ok (.imul, 1) := by decide +kernel
theorem dX5_direction_37 : decode cX5_direction 37 = .ok (.iadd, 1) := by decide +kernel
theorem dX5_direction_38 : decode cX5_direction 38 = .ok (.iload_n 2, 1) := by decide +kernel
theorem dX5_direction_39 : decode cX5_direction 39 = .ok (.iadd, 1) := by decide +kernel
theorem dX5_direction_40 : decode cX5_direction 40 = .ok (.iaload, 1) := by decide +kernel
theorem dX5_direction_41 : decode cX5_direction 41 = .ok (.goto 5, 3) := by decide +kernel
theorem dX5_direction_44 : decode cX5_direction 44 = .ok (.bipush (-2), 2) := by decide +kernel
theorem dX5_direction_46 : decode cX5_direction 46 = .ok (.ireturn, 1) := by decide +kernel
theorem dX5_count_0 : decode cX5_count 0 = .ok (.iload_n 1, 1) := by decide +kernel
theorem dX5_count_1 : decode cX5_count 1 = .ok (.tableswitch 181 0 18 #[91, 99, 107, 115, 123, 131, 139, 147, 155, 163, 181, 181, 181, 181, 181, 181, 181, 171, 176], 91) := by decide +kernel
theorem dX5_count_92 : decode cX5_count 92 = .ok (.aload_n 0, 1) := by decide +kernel
theorem dX5_count_93 : decode cX5_count 93 = .ok (.getfield 7, 3) := by decide +kernel
theorem dX5_count_96 : decode cX5_count 96 = .ok (.bipush 21, 2) := by decide +kernel
theorem dX5_count_98 : decode cX5_count 98 = .ok (.iaload, 1) := by decide +kernel
theorem dX5_count_99 : decode cX5_count 99 = .ok (.ireturn, 1) := by decide +kernel
theorem dX5_count_100 : decode cX5_count 100 = .ok (.aload_n 0, 1) := by decide +kernel
theorem dX5_count_101 : decode cX5_count 101 = .ok (.getfield 7, 3) := by decide +kernel
theorem dX5_count_104 : decode cX5_count 104 = .ok (.bipush 9, 2) := by decide +kernel
theorem dX5_count_106 : decode cX5_count 106 = .ok (.iaload, 1) := by decide +kernel
theorem dX5_count_107 : decode cX5_count 107 = .ok (.ireturn, 1) := by decide +kernel
theorem dX5_count_108 : decode cX5_count 108 = .ok (.aload_n 0, 1) := by decide +kernel
theorem dX5_count_109 : decode cX5_count 109 = .ok (.getfield 7, 3) := by decide +kernel
theorem dX5_count_112 : decode cX5_count 112 = .ok (.bipush 12, 2) := by decide +kernel
theorem dX5_count_114 : decode cX5_count 114 = .ok (.iaload, 1) := by decide +kernel
theorem dX5_count_115 : decode cX5_count 115 = .ok (.ireturn, 1) := by decide +kernel
theorem dX5_count_116 : decode cX5_count 116 = .ok (.aload_n 0, 1) := by decide +kernel
theorem dX5_count_117 : decode cX5_count 117 = .ok (.getfield 7, 3) := by decide +kernel
theorem dX5_count_120 : decode cX5_count 120 = .ok (.bipush 13, 2) := by decide +kernel
theorem dX5_count_122 : decode cX5_count 122 = .ok (.iaload, 1) := by decide +kernel
theorem dX5_count_123 : decode cX5_count 123 = .ok (.ireturn, 1) := by decide +kernel
theorem dX5_count_124 : decode cX5_count 124 = .ok (.aload_n 0, 1) := by decide +kernel
theorem dX5_count_125 : decode cX5_count 125 = .ok (.getfield 7, 3) := by decide +kernel
theorem dX5_count_128 : decode cX5_count 128 = .ok (.bipush 16, 2) := by decide +kernel
theorem dX5_count_130 : decode cX5_count 130 = .ok (.iaload, 1) := by decide +kernel
theorem dX5_count_131 : decode cX5_count 131 = .ok (.ireturn, 1) := by decide +kernel
theorem dX5_count_132 : decode cX5_count 132 = .ok (.aload_n 0, 1) := by decide +kernel
theorem dX5_count_133 : decode cX5_count 133 = .ok (.getfield 7, 3) := by decide +kernel
theorem dX5_count_136 : decode cX5_count 136 = .ok (.bipush 17, 2) := by decide +kernel
theorem dX5_count_138 : decode cX5_count 138 = .ok (.iaload, 1) := by decide +kernel
theorem dX5_count_139 : decode cX5_count 139 = .ok (.ireturn, 1) := by decide +kernel
theorem dX5_count_140 : decode cX5_count 140 = .ok (.aload_n 0, 1) := by decide +kernel
theorem dX5_count_141 : decode cX5_count 141 = .ok (.getfield 7, 3) := by decide +kernel
theorem dX5_count_144 : decode cX5_count 144 = .ok (.bipush 18, 2) := by decide +kernel
theorem dX5_count_146 : decode cX5_count 146 = .ok (.iaload, 1) := by decide +kernel
theorem dX5_count_147 : decode cX5_count 147 = .ok (.ireturn, 1) := by decide +kernel
theorem dX5_count_148 : decode cX5_count 148 = .ok (.aload_n 0, 1) := by decide +kernel
theorem dX5_count_149 : decode cX5_count 149 = .ok (.getfield 7, 3) := by decide +kernel
theorem dX5_count_152 : decode cX5_count 152 = .ok (.bipush 19, 2) := by decide +kernel
theorem dX5_count_154 : decode cX5_count 154 = .ok (.iaload, 1) := by decide +kernel
theorem dX5_count_155 : decode cX5_count 155 = .ok (.ireturn, 1) := by decide +kernel
theorem dX5_count_156 : decode cX5_count 156 = .ok (.aload_n 0, 1) := by decide +kernel
theorem dX5_count_157 : decode cX5_count 157 = .ok (.getfield 7, 3) := by decide +kernel
theorem dX5_count_160 : decode cX5_count 160 = .ok (.bipush 22, 2) := by decide +kernel
theorem dX5_count_162 : decode cX5_count 162 = .ok (.iaload, 1) := by decide +kernel
theorem dX5_count_163 : decode cX5_count 163 = .ok (.ireturn, 1) := by decide +kernel
theorem dX5_count_164 : decode cX5_count 164 = .ok (.aload_n 0, 1) := by decide +kernel
theorem dX5_count_165 : decode cX5_count 165 = .ok (.getfield 7, 3) := by decide +kernel
theorem dX5_count_168 : decode cX5_count 168 = .ok (.bipush 20, 2) := by decide +kernel
theorem dX5_count_170 : decode cX5_count 170 = .ok (.iaload, 1) := by decide +kernel
theorem dX5_count_171 : decode cX5_count 171 = .ok (.ireturn, 1) := by decide +kernel
theorem dX5_count_172 : decode cX5_count 172 = .ok (.aload_n 0, 1) := by decide +kernel
theorem dX5_count_173 : decode cX5_count 173 = .ok (.getfield 108, 3) := by decide +kernel
theorem dX5_count_176 : decode cX5_count 176 = .ok (.ireturn, 1) := by decide +kernel
theorem dX5_count_177 : decode cX5_count 177 = .ok (.aload_n 0, 1) := by decide +kernel
theorem dX5_count_178 : decode cX5_count 178 = .ok (.getfield 30, 3) := by decide +kernel
theorem dX5_count_181 : decode cX5_count 181 = .ok (.ireturn, 1) := by decide +kernel
theorem dX5_count_182 : decode cX5_count 182 = .ok (.iload_n 1, 1) := by decide +kernel
theorem dX5_count_183 : decode cX5_count 183 = .ok (.bipush 10, 2) := by decide +kernel
theorem dX5_count_185 : decode cX5_count 185 = .ok (.bipush 16, 2) := by decide +kernel
theorem dX5_count_187 : decode cX5_count 187 = .ok (.invokestatic 26, 3) := by decide +kernel
theorem dX5_count_190 : decode cX5_count 190 = .ok (.ifCond .eq 15, 3) := by decide +kernel
theorem dX5_count_193 : decode cX5_count 193 = .ok (.aload_n 0, 1) := by decide +kernel
theorem dX5_count_194 : decode cX5_count 194 = .ok (.getfield 7, 3) := by decide +kernel
theorem dX5_count_197 : decode cX5_count 197 = .ok (.iload_n 1, 1) := by decide +kernel
theorem dX5_count_198 : decode cX5_count 198 = .ok (.bipush 10, 2) := by decide +kernel
theorem dX5_count_200 : decode cX5_count 200 = .ok (.isub, 1) := by decide +kernel
theorem dX5_count_201 : decode cX5_count 201 = .ok (.iaload, 1) := by decide +kernel
theorem dX5_count_202 : decode cX5_count 202 = .ok (.goto 5, 3) := by decide +kernel
theorem dX5_count_205 : decode cX5_count 205 = .ok (.bipush (-2), 2) := by decide +kernel
theorem dX5_count_207 : decode cX5_count 207 = .ok (.ireturn, 1) := by decide +kernel
theorem dX5_wouldTell_0 : decode cX5_wouldTell 0 = .ok (.iload_n 1, 1) := by decide +kernel
theorem dX5_wouldTell_1 : decode cX5_wouldTell 1 = .ok (.iload_n 2, 1) := by decide +kernel
theorem dX5_wouldTell_2 : decode cX5_wouldTell 2 = .ok (.invokestatic 82, 3) := by decide +kernel
theorem dX5_wouldTell_5 : decode cX5_wouldTell 5 = .ok (.ifCond .ne 6, 3) := by decide +kernel
theorem dX5_wouldTell_8 : decode cX5_wouldTell 8 = .ok (.bipush (-2), 2) := by decide +kernel
theorem dX5_wouldTell_10 : decode cX5_wouldTell 10 = .ok (.ireturn, 1) := by decide +kernel
theorem dX5_wouldTell_11 : decode cX5_wouldTell 11 = .ok (.aload_n 0, 1) := by decide +kernel
theorem dX5_wouldTell_12 : decode cX5_wouldTell 12 = .ok (.invokevirtual 111, 3) := by decide +kernel
theorem dX5_wouldTell_15 : decode cX5_wouldTell 15 = .ok (.aload_n 0, 1) := by decide +kernel
theorem dX5_wouldTell_16 : decode cX5_wouldTell 16 = .ok (.bipush 61, 2) := by decide +kernel
theorem dX5_wouldTell_18 : decode cX5_wouldTell 18 = .ok (.iload_n 1, 1) := by decide +kernel
theorem dX5_wouldTell_19 : decode cX5_wouldTell 19 = .ok (.iload_n 2, 1) := by decide +kernel
theorem dX5_wouldTell_20 : decode cX5_wouldTell 20 = .ok (.invokevirtual 89, 3) := by decide +kernel
theorem dX5_wouldTell_23 : decode cX5_wouldTell 23 = .ok (.aload_n 0, 1) := by decide +kernel
theorem dX5_wouldTell_24 : decode cX5_wouldTell 24 = .ok (.bipush 61, 2) := by decide +kernel
theorem dX5_wouldTell_26 : decode cX5_wouldTell 26 = .ok (.invokevirtual 92, 3) := by decide +kernel
theorem dX5_wouldTell_29 : decode cX5_wouldTell 29 = .ok (.ireturn, 1) := by decide +kernel
theorem dX5_learnedIn_0 : decode cX5_learnedIn 0 = .ok (.iload_n 1, 1) := by decide +kernel
theorem dX5_learnedIn_1 : decode cX5_learnedIn 1 = .ok (.iload_n 2, 1) := by decide +kernel
theorem dX5_learnedIn_2 : decode cX5_learnedIn 2 = .ok (.invokestatic 82, 3) := by decide +kernel
theorem dX5_learnedIn_5 : decode cX5_learnedIn 5 = .ok (.ifCond .ne 6, 3) := by decide +kernel
theorem dX5_learnedIn_8 : decode cX5_learnedIn 8 = .ok (.bipush (-2), 2) := by decide +kernel
theorem dX5_learnedIn_10 : decode cX5_learnedIn 10 = .ok (.ireturn, 1) := by decide +kernel
theorem dX5_learnedIn_11 : decode cX5_learnedIn 11 = .ok (.aload_n 0, 1) := by decide +kernel
theorem dX5_learnedIn_12 : decode cX5_learnedIn 12 = .ok (.invokevirtual 111, 3) := by decide +kernel
theorem dX5_learnedIn_15 : decode cX5_learnedIn 15 = .ok (.iconst 0, 1) := by decide +kernel
theorem dX5_learnedIn_16 : decode cX5_learnedIn 16 = .ok (.istore_n 3, 1) := by decide +kernel
theorem dX5_learnedIn_17 : decode cX5_learnedIn 17 = .ok (.iload_n 3, 1) := by decide +kernel
theorem dX5_learnedIn_18 : decode cX5_learnedIn 18 = .ok (.sipush 500, 3) := by decide +kernel
theorem dX5_learnedIn_21 : decode cX5_learnedIn 21 = .ok (.if_icmp .gt 30, 3) := by decide +kernel
theorem dX5_learnedIn_24 : decode cX5_learnedIn 24 = .ok (.aload_n 0, 1) := by decide +kernel
theorem dX5_learnedIn_25 : decode cX5_learnedIn 25 = .ok (.bipush 61, 2) := by decide +kernel
theorem dX5_learnedIn_27 : decode cX5_learnedIn 27 = .ok (.iload_n 1, 1) := by decide +kernel
theorem dX5_learnedIn_28 : decode cX5_learnedIn 28 = .ok (.iload_n 2, 1) := by decide +kernel
theorem dX5_learnedIn_29 : decode cX5_learnedIn 29 = .ok (.invokevirtual 50, 3) := by decide +kernel
theorem dX5_learnedIn_32 : decode cX5_learnedIn 32 = .ok (.ifCond .ne 5, 3) := by decide +kernel
theorem dX5_learnedIn_35 : decode cX5_learnedIn 35 = .ok (.iload_n 3, 1) := by decide +kernel
theorem dX5_learnedIn_36 : decode cX5_learnedIn 36 = .ok (.ireturn, 1) := by decide +kernel
theorem dX5_learnedIn_37 : decode cX5_learnedIn 37 = .ok (.aload_n 0, 1) := by decide +kernel
theorem dX5_learnedIn_38 : decode cX5_learnedIn 38 = .ok (.bipush 61, 2) := by decide +kernel
theorem dX5_learnedIn_40 : decode cX5_learnedIn 40 = .ok (.iload_n 1, 1) := by decide +kernel
theorem dX5_learnedIn_41 : decode cX5_learnedIn 41 = .ok (.iload_n 2, 1) := by decide +kernel
theorem dX5_learnedIn_42 : decode cX5_learnedIn 42 = .ok (.invokevirtual 89, 3) := by decide +kernel
theorem dX5_learnedIn_45 : decode cX5_learnedIn 45 = .ok (.iinc 3 1, 3) := by decide +kernel
theorem dX5_learnedIn_48 : decode cX5_learnedIn 48 = .ok (.goto (-31), 3) := by decide +kernel
theorem dX5_learnedIn_51 : decode cX5_learnedIn 51 = .ok (.bipush (-6), 2) := by decide +kernel
theorem dX5_learnedIn_53 : decode cX5_learnedIn 53 = .ok (.ireturn, 1) := by decide +kernel
theorem dX5_edge_0 : decode cX5_edge 0 = .ok (.iload_n 1, 1) := by decide +kernel
theorem dX5_edge_1 : decode cX5_edge 1 = .ok (.iconst 0, 1) := by decide +kernel
theorem dX5_edge_2 : decode cX5_edge 2 = .ok (.iconst 1, 1) := by decide +kernel
theorem dX5_edge_3 : decode cX5_edge 3 = .ok (.invokestatic 26, 3) := by decide +kernel
theorem dX5_edge_6 : decode cX5_edge 6 = .ok (.ifCond .ne 5, 3) := by decide +kernel
theorem dX5_edge_9 : decode cX5_edge 9 = .ok (.iconst (-1), 1) := by decide +kernel
theorem dX5_edge_10 : decode cX5_edge 10 = .ok (.ireturn, 1) := by decide +kernel
theorem dX5_edge_11 : decode cX5_edge 11 = .ok (.iload_n 2, 1) := by decide +kernel
theorem dX5_edge_12 : decode cX5_edge 12 = .ok (.iconst 0, 1) := by decide +kernel
theorem dX5_edge_13 : decode cX5_edge 13 = .ok (.iconst 1, 1) := by decide +kernel
theorem dX5_edge_14 : decode cX5_edge 14 = .ok (.invokestatic 26, 3) := by decide +kernel
theorem dX5_edge_17 : decode cX5_edge 17 = .ok (.ifCond .ne 6, 3) := by decide +kernel
theorem dX5_edge_20 : decode cX5_edge 20 = .ok (.bipush (-2), 2) := by decide +kernel
theorem dX5_edge_22 : decode cX5_edge 22 = .ok (.ireturn, 1) := by decide +kernel
theorem dX5_edge_23 : decode cX5_edge 23 = .ok (.aload_n 0, 1) := by decide +kernel
theorem dX5_edge_24 : decode cX5_edge 24 = .ok (.getfield 7, 3) := by decide +kernel
theorem dX5_edge_27 : decode cX5_edge 27 = .ok (.bipush 7, 2) := by decide +kernel
theorem dX5_edge_29 : decode cX5_edge 29 = .ok (.iaload, 1) := by decide +kernel
theorem dX5_edge_30 : decode cX5_edge 30 = .ok (.bipush 16, 2) := by decide +kernel
theorem dX5_edge_32 : decode cX5_edge 32 = .ok (.idiv, 1) := by decide +kernel
theorem dX5_edge_33 : decode cX5_edge 33 = .ok (.istore_n 3, 1) := by decide +kernel
theorem dX5_edge_34 : decode cX5_edge 34 = .ok (.aload_n 0, 1) := by decide +kernel
theorem dX5_edge_35 : decode cX5_edge 35 = .ok (.getfield 7, 3) := by decide +kernel
theorem dX5_edge_38 : decode cX5_edge 38 = .ok (.bipush 8, 2) := by decide +kernel
theorem dX5_edge_40 : decode cX5_edge 40 = .ok (.iaload, 1) := by decide +kernel
theorem dX5_edge_41 : decode cX5_edge 41 = .ok (.bipush 16, 2) := by decide +kernel
theorem dX5_edge_43 : decode cX5_edge 43 = .ok (.idiv, 1) := by decide +kernel
theorem dX5_edge_44 : decode cX5_edge 44 = .ok (.istore 4, 2) := by decide +kernel
theorem dX5_edge_46 : decode cX5_edge 46 = .ok (.iconst 1, 1) := by decide +kernel
theorem dX5_edge_47 : decode cX5_edge 47 = .ok (.istore 5, 2) := by decide +kernel
theorem dX5_edge_49 : decode cX5_edge 49 = .ok (.iload 5, 2) := by decide +kernel
theorem dX5_edge_51 : decode cX5_edge 51 = .ok (.sipush 255, 3) := by decide +kernel
theorem dX5_edge_54 : decode cX5_edge 54 = .ok (.if_icmp .gt 91, 3) := by decide +kernel
theorem dX5_edge_57 : decode cX5_edge 57 = .ok (.iload_n 2, 1) := by decide +kernel
theorem dX5_edge_58 : decode cX5_edge 58 = .ok (.iconst 1, 1) := by decide +kernel
theorem dX5_edge_59 : decode cX5_edge 59 = .ok (.if_icmp .ne 8, 3) := by decide +kernel
theorem dX5_edge_62 : decode cX5_edge 62 = .ok (.iload 5, 2) := by decide +kernel
theorem dX5_edge_64 : decode cX5_edge 64 = .ok (.goto 6, 3) := by decide +kernel
theorem dX5_edge_67 : decode cX5_edge 67 = .ok (.iload 5, 2) := by decide +kernel
theorem dX5_edge_69 : decode cX5_edge 69 = .ok (.ineg, 1) := by decide +kernel
theorem dX5_edge_70 : decode cX5_edge 70 = .ok (.istore 6, 2) := by decide +kernel
theorem dX5_edge_72 : decode cX5_edge 72 = .ok (.iload_n 1, 1) := by decide +kernel
theorem dX5_edge_73 : decode cX5_edge 73 = .ok (.ifCond .ne 10, 3) := by decide +kernel
theorem dX5_edge_76 : decode cX5_edge 76 = .ok (.iload_n 3, 1) := by decide +kernel
theorem dX5_edge_77 : decode cX5_edge 77 = .ok (.iload 6, 2) := by decide +kernel
theorem dX5_edge_79 : decode cX5_edge 79 = .ok (.iadd, 1) := by decide +kernel
theorem dX5_edge_80 : decode cX5_edge 80 = .ok (.goto 4, 3) := by decide +kernel
theorem dX5_edge_83 : decode cX5_edge 83 = .ok (.iload_n 3, 1) := by decide +kernel
theorem dX5_edge_84 : decode cX5_edge 84 = .ok (.istore 7, 2) := by decide +kernel
theorem dX5_edge_86 : decode cX5_edge 86 = .ok (.iload_n 1, 1) := by decide +kernel
theorem dX5_edge_87 : decode cX5_edge 87 = .ok (.iconst 1, 1) := by decide +kernel
theorem dX5_edge_88 : decode cX5_edge 88 = .ok (.if_icmp .ne 11, 3) := by decide +kernel
theorem dX5_edge_91 : decode cX5_edge 91 = .ok (.iload 4, 2) := by decide +kernel
theorem dX5_edge_93 : decode cX5_edge 93 = .ok (.iload 6, 2) := by decide +kernel
theorem dX5_edge_95 : decode cX5_edge 95 = .ok (.iadd, 1) := by decide +kernel
theorem dX5_edge_96 : decode cX5_edge 96 = .ok (.goto 5, 3) := by decide +kernel
theorem dX5_edge_99 : decode cX5_edge 99 = .ok (.iload 4, 2) := by decide +kernel
theorem dX5_edge_101 : decode cX5_edge 101 = .ok (.istore 8, 2) := by decide +kernel
theorem dX5_edge_103 : decode cX5_edge 103 = .ok (.iload 7, 2) := by decide +kernel
theorem dX5_edge_105 : decode cX5_edge 105 = .ok (.iload 8, 2) := by decide +kernel
theorem dX5_edge_107 : decode cX5_edge 107 = .ok (.invokestatic 82, 3) := by decide +kernel
theorem dX5_edge_110 : decode cX5_edge 110 = .ok (.ifCond .eq 29, 3) := by decide +kernel
theorem dX5_edge_113 : decode cX5_edge 113 = .ok (.aload_n 0, 1) := by decide +kernel
theorem dX5_edge_114 : decode cX5_edge 114 = .ok (.invokevirtual 111, 3) := by decide +kernel
theorem dX5_edge_117 : decode cX5_edge 117 = .ok (.aload_n 0, 1) := by decide +kernel
theorem dX5_edge_118 : decode cX5_edge 118 = .ok (.bipush 61, 2) := by decide +kernel
theorem dX5_edge_120 : decode cX5_edge 120 = .ok (.iload 7, 2) := by decide +kernel
theorem dX5_edge_122 : decode cX5_edge 122 = .ok (.iload 8, 2) := by decide +kernel
theorem dX5_edge_124 : decode cX5_edge 124 = .ok (.invokevirtual 89, 3) := by decide +kernel
theorem dX5_edge_127 : decode cX5_edge 127 = .ok (.aload_n 0, 1) := by decide +kernel
theorem dX5_edge_128 : decode cX5_edge 128 = .ok (.bipush 61, 2) := by decide +kernel
theorem dX5_edge_130 : decode cX5_edge 130 = .ok (.invokevirtual 46, 3) := by decide +kernel
theorem dX5_edge_133 : decode cX5_edge 133 = .ok (.ifCond .eq 6, 3) := by decide +kernel
theorem dX5_edge_136 : decode cX5_edge 136 = .ok (.iload 5, 2) := by decide +kernel
theorem dX5_edge_138 : decode cX5_edge 138 = .ok (.ireturn, 1) := by decide +kernel
theorem dX5_edge_139 : decode cX5_edge 139 = .ok (.iinc 5 1, 3) := by decide +kernel
theorem dX5_edge_142 : decode cX5_edge 142 = .ok (.goto (-93), 3) := by decide +kernel
theorem dX5_edge_145 : decode cX5_edge 145 = .ok (.bipush (-6), 2) := by decide +kernel
theorem dX5_edge_147 : decode cX5_edge 147 = .ok (.ireturn, 1) := by decide +kernel
theorem dX5_driftsIn_0 : decode cX5_driftsIn 0 = .ok (.iload_n 1, 1) := by decide +kernel
theorem dX5_driftsIn_1 : decode cX5_driftsIn 1 = .ok (.iload_n 2, 1) := by decide +kernel
theorem dX5_driftsIn_2 : decode cX5_driftsIn 2 = .ok (.invokestatic 82, 3) := by decide +kernel
theorem dX5_driftsIn_5 : decode cX5_driftsIn 5 = .ok (.ifCond .ne 6, 3) := by decide +kernel
theorem dX5_driftsIn_8 : decode cX5_driftsIn 8 = .ok (.bipush (-2), 2) := by decide +kernel
theorem dX5_driftsIn_10 : decode cX5_driftsIn 10 = .ok (.ireturn, 1) := by decide +kernel
theorem dX5_driftsIn_11 : decode cX5_driftsIn 11 = .ok (.aload_n 0, 1) := by decide +kernel
theorem dX5_driftsIn_12 : decode cX5_driftsIn 12 = .ok (.invokevirtual 111, 3) := by decide +kernel
theorem dX5_driftsIn_15 : decode cX5_driftsIn 15 = .ok (.iconst 1, 1) := by decide +kernel
theorem dX5_driftsIn_16 : decode cX5_driftsIn 16 = .ok (.istore_n 3, 1) := by decide +kernel
theorem dX5_driftsIn_17 : decode cX5_driftsIn 17 = .ok (.iload_n 3, 1) := by decide +kernel
theorem dX5_driftsIn_18 : decode cX5_driftsIn 18 = .ok (.sipush 200, 3) := by decide +kernel
theorem dX5_driftsIn_21 : decode cX5_driftsIn 21 = .ok (.if_icmp .gt 36, 3) := by decide +kernel
theorem dX5_driftsIn_24 : decode cX5_driftsIn 24 = .ok (.aload_n 0, 1) := by decide +kernel
theorem dX5_driftsIn_25 : decode cX5_driftsIn 25 = .ok (.bipush 61, 2) := by decide +kernel
theorem dX5_driftsIn_27 : decode cX5_driftsIn 27 = .ok (.iload_n 1, 1) := by decide +kernel
theorem dX5_driftsIn_28 : decode cX5_driftsIn 28 = .ok (.iload_n 2, 1) := by decide +kernel
theorem dX5_driftsIn_29 : decode cX5_driftsIn 29 = .ok (.invokevirtual 89, 3) := by decide +kernel
theorem dX5_driftsIn_32 : decode cX5_driftsIn 32 = .ok (.aload_n 0, 1) := by decide +kernel
theorem dX5_driftsIn_33 : decode cX5_driftsIn 33 = .ok (.getfield 7, 3) := by decide +kernel
theorem dX5_driftsIn_36 : decode cX5_driftsIn 36 = .ok (.bipush 78, 2) := by decide +kernel
theorem dX5_driftsIn_38 : decode cX5_driftsIn 38 = .ok (.iaload, 1) := by decide +kernel
theorem dX5_driftsIn_39 : decode cX5_driftsIn 39 = .ok (.aload_n 0, 1) := by decide +kernel
theorem dX5_driftsIn_40 : decode cX5_driftsIn 40 = .ok (.getfield 7, 3) := by decide +kernel
theorem dX5_driftsIn_43 : decode cX5_driftsIn 43 = .ok (.bipush 17, 2) := by decide +kernel
theorem dX5_driftsIn_45 : decode cX5_driftsIn 45 = .ok (.iaload, 1) := by decide +kernel
theorem dX5_driftsIn_46 : decode cX5_driftsIn 46 = .ok (.if_icmp .le 5, 3) := by decide +kernel
theorem dX5_driftsIn_49 : decode cX5_driftsIn 49 = .ok (.iload_n 3, 1) := by decide +kernel
theorem dX5_driftsIn_50 : decode cX5_driftsIn 50 = .ok (.ireturn, 1) := by decide +kernel
theorem dX5_driftsIn_51 : decode cX5_driftsIn 51 = .ok (.iinc 3 1, 3) := by decide +kernel
theorem dX5_driftsIn_54 : decode cX5_driftsIn 54 = .ok (.goto (-37), 3) := by decide +kernel
theorem dX5_driftsIn_57 : decode cX5_driftsIn 57 = .ok (.bipush (-6), 2) := by decide +kernel
theorem dX5_driftsIn_59 : decode cX5_driftsIn 59 = .ok (.ireturn, 1) := by decide +kernel
theorem dX5_put_0 : decode cX5_put 0 = .ok (.iconst 0, 1) := by decide +kernel
theorem dX5_put_1 : decode cX5_put 1 = .ok (.istore_n 3, 1) := by decide +kernel
theorem dX5_put_2 : decode cX5_put 2 = .ok (.iconst 1, 1) := by decide +kernel
theorem dX5_put_3 : decode cX5_put 3 = .ok (.istore 4, 2) := by decide +kernel
theorem dX5_put_5 : decode cX5_put 5 = .ok (.iconst 0, 1) := by decide +kernel
theorem dX5_put_6 : decode cX5_put 6 = .ok (.istore 5, 2) := by decide +kernel
theorem dX5_put_8 : decode cX5_put 8 = .ok (.iconst 0, 1) := by decide +kernel
theorem dX5_put_9 : decode cX5_put 9 = .ok (.istore 6, 2) := by decide +kernel
theorem dX5_put_11 : decode cX5_put 11 = .ok (.iload 6, 2) := by decide +kernel
theorem dX5_put_13 : decode cX5_put 13 = .ok (.bipush 8, 2) := by decide +kernel
theorem dX5_put_15 : decode cX5_put 15 = .ok (.if_icmp .ge 90, 3) := by decide +kernel
theorem dX5_put_18 : decode cX5_put 18 = .ok (.lload_n 1, 1) := by decide +kernel
theorem dX5_put_19 : decode cX5_put 19 = .ok (.bipush 8, 2) := by decide +kernel
theorem dX5_put_21 : decode cX5_put 21 = .ok (.iload 6, 2) := by decide +kernel
theorem dX5_put_23 : decode cX5_put 23 = .ok (.imul, 1) := by decide +kernel
theorem dX5_put_24 : decode cX5_put 24 = .ok (.lshr, 1) := by decide +kernel
theorem dX5_put_25 : decode cX5_put 25 = .ok (.ldc2_w 114, 3) := by decide +kernel
theorem dX5_put_28 : decode cX5_put 28 = .ok (.land, 1) := by decide +kernel
theorem dX5_put_29 : decode cX5_put 29 = .ok (.l2i, 1) := by decide +kernel
theorem dX5_put_30 : decode cX5_put 30 = .ok (.istore 7, 2) := by decide +kernel
theorem dX5_put_32 : decode cX5_put 32 = .ok (.iload 5, 2) := by decide +kernel
theorem dX5_put_34 : decode cX5_put 34 = .ok (.ifCond .ne 8, 3) := by decide +kernel
theorem dX5_put_37 : decode cX5_put 37 = .ok (.iload 7, 2) := by decide +kernel
theorem dX5_put_39 : decode cX5_put 39 = .ok (.ifCond .ne 7, 3) := by decide +kernel
theorem dX5_put_42 : decode cX5_put 42 = .ok (.iconst 1, 1) := by decide +kernel
theorem dX5_put_43 : decode cX5_put 43 = .ok (.goto 4, 3) := by decide +kernel
theorem dX5_put_46 : decode cX5_put 46 = .ok (.iconst 0, 1) := by decide +kernel
theorem dX5_put_47 : decode cX5_put 47 = .ok (.istore 5, 2) := by decide +kernel
theorem dX5_put_49 : decode cX5_put 49 = .ok (.iload 4, 2) := by decide +kernel
theorem dX5_put_51 : decode cX5_put 51 = .ok (.ifCond .eq 32, 3) := by decide +kernel
theorem dX5_put_54 : decode cX5_put 54 = .ok (.iload 5, 2) := by decide +kernel
theorem dX5_put_56 : decode cX5_put 56 = .ok (.ifCond .eq 11, 3) := by decide +kernel
theorem dX5_put_59 : decode cX5_put 59 = .ok (.iload 7, 2) := by decide +kernel
theorem dX5_put_61 : decode cX5_put 61 = .ok (.ifCond .ne 22, 3) := by decide +kernel
theorem dX5_put_64 : decode cX5_put 64 = .ok (.goto 15, 3) := by decide +kernel
theorem dX5_put_67 : decode cX5_put 67 = .ok (.iload 7, 2) := by decide +kernel
theorem dX5_put_69 : decode cX5_put 69 = .ok (.bipush 33, 2) := by decide +kernel
theorem dX5_put_71 : decode cX5_put 71 = .ok (.bipush 126, 2) := by decide +kernel
theorem dX5_put_73 : decode cX5_put 73 = .ok (.invokestatic 26, 3) := by decide +kernel
theorem dX5_put_76 : decode cX5_put 76 = .ok (.ifCond .eq 7, 3) := by decide +kernel
theorem dX5_put_79 : decode cX5_put 79 = .ok (.iconst 1, 1) := by decide +kernel
theorem dX5_put_80 : decode cX5_put 80 = .ok (.goto 4, 3) := by decide +kernel
theorem dX5_put_83 : decode cX5_put 83 = .ok (.iconst 0, 1) := by decide +kernel
theorem dX5_put_84 : decode cX5_put 84 = .ok (.istore 4, 2) := by decide +kernel
theorem dX5_put_86 : decode cX5_put 86 = .ok (.iload_n 3, 1) := by decide +kernel
theorem dX5_put_87 : decode cX5_put 87 = .ok (.iload 5, 2) := by decide +kernel
theorem dX5_put_89 : decode cX5_put 89 = .ok (.ifCond .eq 7, 3) := by decide +kernel
theorem dX5_put_92 : decode cX5_put 92 = .ok (.iconst 0, 1) := by decide +kernel
theorem dX5_put_93 : decode cX5_put 93 = .ok (.goto 4, 3) := by decide +kernel
theorem dX5_put_96 : decode cX5_put 96 = .ok (.iconst 1, 1) := by decide +kernel
theorem dX5_put_97 : decode cX5_put 97 = .ok (.iadd, 1) := by decide +kernel
theorem dX5_put_98 : decode cX5_put 98 = .ok (.istore_n 3, 1) := by decide +kernel
theorem dX5_put_99 : decode cX5_put 99 = .ok (.iinc 6 1, 3) := by decide +kernel
theorem dX5_put_102 : decode cX5_put 102 = .ok (.goto (-91), 3) := by decide +kernel
theorem dX5_put_105 : decode cX5_put 105 = .ok (.iload 4, 2) := by decide +kernel
theorem dX5_put_107 : decode cX5_put 107 = .ok (.ifCond .eq 7, 3) := by decide +kernel
theorem dX5_put_110 : decode cX5_put 110 = .ok (.iload_n 3, 1) := by decide +kernel
theorem dX5_put_111 : decode cX5_put 111 = .ok (.ifCond .ne 6, 3) := by decide +kernel
theorem dX5_put_114 : decode cX5_put 114 = .ok (.bipush (-2), 2) := by decide +kernel
theorem dX5_put_116 : decode cX5_put 116 = .ok (.ireturn, 1) := by decide +kernel
theorem dX5_put_117 : decode cX5_put 117 = .ok (.aload_n 0, 1) := by decide +kernel
theorem dX5_put_118 : decode cX5_put 118 = .ok (.getfield 108, 3) := by decide +kernel
theorem dX5_put_121 : decode cX5_put 121 = .ok (.iload_n 3, 1) := by decide +kernel
theorem dX5_put_122 : decode cX5_put 122 = .ok (.iadd, 1) := by decide +kernel
theorem dX5_put_123 : decode cX5_put 123 = .ok (.bipush 80, 2) := by decide +kernel
theorem dX5_put_125 : decode cX5_put 125 = .ok (.if_icmp .le 6, 3) := by decide +kernel
theorem dX5_put_128 : decode cX5_put 128 = .ok (.bipush (-4), 2) := by decide +kernel
theorem dX5_put_130 : decode cX5_put 130 = .ok (.ireturn, 1) := by decide +kernel
theorem dX5_put_131 : decode cX5_put 131 = .ok (.iload_n 3, 1) := by decide +kernel
theorem dX5_put_132 : decode cX5_put 132 = .ok (.iconst 1, 1) := by decide +kernel
theorem dX5_put_133 : decode cX5_put 133 = .ok (.isub, 1) := by decide +kernel
theorem dX5_put_134 : decode cX5_put 134 = .ok (.istore 6, 2) := by decide +kernel
theorem dX5_put_136 : decode cX5_put 136 = .ok (.iload 6, 2) := by decide +kernel
theorem dX5_put_138 : decode cX5_put 138 = .ok (.ifCond .lt 40, 3) := by decide +kernel
theorem dX5_put_141 : decode cX5_put 141 = .ok (.aload_n 0, 1) := by decide +kernel
theorem dX5_put_142 : decode cX5_put 142 = .ok (.getfield 23, 3) := by decide +kernel
theorem dX5_put_145 : decode cX5_put 145 = .ok (.aload_n 0, 1) := by decide +kernel
theorem dX5_put_146 : decode cX5_put 146 = .ok (.getfield 108, 3) := by decide +kernel
theorem dX5_put_149 : decode cX5_put 149 = .ok (.lload_n 1, 1) := by decide +kernel
theorem dX5_put_150 : decode cX5_put 150 = .ok (.bipush 8, 2) := by decide +kernel
theorem dX5_put_152 : decode cX5_put 152 = .ok (.iload 6, 2) := by decide +kernel
theorem dX5_put_154 : decode cX5_put 154 = .ok (.imul, 1) := by decide +kernel
theorem dX5_put_155 : decode cX5_put 155 = .ok (.lshr, 1) := by decide +kernel
theorem dX5_put_156 : decode cX5_put 156 = .ok (.ldc2_w 114, 3) := by decide +kernel
theorem dX5_put_159 : decode cX5_put 159 = .ok (.land, 1) := by decide +kernel
theorem dX5_put_160 : decode cX5_put 160 = .ok (.l2i, 1) := by decide +kernel
theorem dX5_put_161 : decode cX5_put 161 = .ok (.iastore, 1) := by decide +kernel
theorem dX5_put_162 : decode cX5_put 162 = .ok (.aload_n 0, 1) := by decide +kernel
theorem dX5_put_163 : decode cX5_put 163 = .ok (.dup, 1) := by decide +kernel
theorem dX5_put_164 : decode cX5_put 164 = .ok (.getfield 108, 3) := by decide +kernel
theorem dX5_put_167 : decode cX5_put 167 = .ok (.iconst 1, 1) := by decide +kernel
theorem dX5_put_168 : decode cX5_put 168 = .ok (.iadd, 1) := by decide +kernel
theorem dX5_put_169 : decode cX5_put 169 = .ok (.putfield 108, 3) := by decide +kernel
theorem dX5_put_172 : decode cX5_put 172 = .ok (.iinc 6 (-1), 3) := by decide +kernel
theorem dX5_put_175 : decode cX5_put 175 = .ok (.goto (-39), 3) := by decide +kernel
theorem dX5_put_178 : decode cX5_put 178 = .ok (.aload_n 0, 1) := by decide +kernel
theorem dX5_put_179 : decode cX5_put 179 = .ok (.getfield 108, 3) := by decide +kernel
theorem dX5_put_182 : decode cX5_put 182 = .ok (.ireturn, 1) := by decide +kernel
theorem dX5_wipe_0 : decode cX5_wipe 0 = .ok (.aload_n 0, 1) := by decide +kernel
theorem dX5_wipe_1 : decode cX5_wipe 1 = .ok (.getfield 108, 3) := by decide +kernel
theorem dX5_wipe_4 : decode cX5_wipe 4 = .ok (.istore_n 1, 1) := by decide +kernel
theorem dX5_wipe_5 : decode cX5_wipe 5 = .ok (.aload_n 0, 1) := by decide +kernel
theorem dX5_wipe_6 : decode cX5_wipe 6 = .ok (.iconst 0, 1) := by decide +kernel
theorem dX5_wipe_7 : decode cX5_wipe 7 = .ok (.putfield 108, 3) := by decide +kernel
theorem dX5_wipe_10 : decode cX5_wipe 10 = .ok (.iload_n 1, 1) := by decide +kernel
theorem dX5_wipe_11 : decode cX5_wipe 11 = .ok (.ireturn, 1) := by decide +kernel
theorem dX5_signAt_0 : decode cX5_signAt 0 = .ok (.iload_n 1, 1) := by decide +kernel
theorem dX5_signAt_1 : decode cX5_signAt 1 = .ok (.aload_n 0, 1) := by decide +kernel
theorem dX5_signAt_2 : decode cX5_signAt 2 = .ok (.getfield 108, 3) := by decide +kernel
theorem dX5_signAt_5 : decode cX5_signAt 5 = .ok (.if_icmp .ge 12, 3) := by decide +kernel
theorem dX5_signAt_8 : decode cX5_signAt 8 = .ok (.aload_n 0, 1) := by decide +kernel
theorem dX5_signAt_9 : decode cX5_signAt 9 = .ok (.getfield 23, 3) := by decide +kernel
theorem dX5_signAt_12 : decode cX5_signAt 12 = .ok (.iload_n 1, 1) := by decide +kernel
theorem dX5_signAt_13 : decode cX5_signAt 13 = .ok (.iaload, 1) := by decide +kernel
theorem dX5_signAt_14 : decode cX5_signAt 14 = .ok (.goto 4, 3) := by decide +kernel
theorem dX5_signAt_17 : decode cX5_signAt 17 = .ok (.iconst (-1), 1) := by decide +kernel
theorem dX5_signAt_18 : decode cX5_signAt 18 = .ok (.ireturn, 1) := by decide +kernel
theorem dX5_digit_0 : decode cX5_digit 0 = .ok (.aload_n 0, 1) := by decide +kernel
theorem dX5_digit_1 : decode cX5_digit 1 = .ok (.iload_n 1, 1) := by decide +kernel
theorem dX5_digit_2 : decode cX5_digit 2 = .ok (.invokevirtual 116, 3) := by decide +kernel
theorem dX5_digit_5 : decode cX5_digit 5 = .ok (.bipush 48, 2) := by decide +kernel
theorem dX5_digit_7 : decode cX5_digit 7 = .ok (.bipush 57, 2) := by decide +kernel
theorem dX5_digit_9 : decode cX5_digit 9 = .ok (.invokestatic 26, 3) := by decide +kernel
theorem dX5_digit_12 : decode cX5_digit 12 = .ok (.ifCond .eq 14, 3) := by decide +kernel
theorem dX5_digit_15 : decode cX5_digit 15 = .ok (.aload_n 0, 1) := by decide +kernel
theorem dX5_digit_16 : decode cX5_digit 16 = .ok (.iload_n 1, 1) := by decide +kernel
theorem dX5_digit_17 : decode cX5_digit 17 = .ok (.invokevirtual 116, 3) := by decide +kernel
theorem dX5_digit_20 : decode cX5_digit 20 = .ok (.bipush 48, 2) := by decide +kernel
theorem dX5_digit_22 : decode cX5_digit 22 = .ok (.isub, 1) := by decide +kernel
theorem dX5_digit_23 : decode cX5_digit 23 = .ok (.goto 4, 3) := by decide +kernel
theorem dX5_digit_26 : decode cX5_digit 26 = .ok (.iconst (-1), 1) := by decide +kernel
theorem dX5_digit_27 : decode cX5_digit 27 = .ok (.ireturn, 1) := by decide +kernel
theorem dX5_numberEnd_0 : decode cX5_numberEnd 0 = .ok (.iload_n 1, 1) := by decide +kernel
theorem dX5_numberEnd_1 : decode cX5_numberEnd 1 = .ok (.ifCond .ge 5, 3) := by decide +kernel
theorem dX5_numberEnd_4 : decode cX5_numberEnd 4 = .ok (.iload_n 1, 1) := by decide +kernel
theorem dX5_numberEnd_5 : decode cX5_numberEnd 5 = .ok (.ireturn, 1) := by decide +kernel
theorem dX5_numberEnd_6 : decode cX5_numberEnd 6 = .ok (.aload_n 0, 1) := by decide +kernel
theorem dX5_numberEnd_7 : decode cX5_numberEnd 7 = .ok (.iload_n 1, 1) := by decide +kernel
theorem dX5_numberEnd_8 : decode cX5_numberEnd 8 = .ok (.invokevirtual 119, 3) := by decide +kernel
theorem dX5_numberEnd_11 : decode cX5_numberEnd 11 = .ok (.ifCond .ge 7, 3) := by decide +kernel
theorem dX5_numberEnd_14 : decode cX5_numberEnd 14 = .ok (.iconst (-1), 1) := by decide +kernel
theorem dX5_numberEnd_15 : decode cX5_numberEnd 15 = .ok (.iload_n 1, 1) := by decide +kernel
theorem dX5_numberEnd_16 : decode cX5_numberEnd 16 = .ok (.isub, 1) := by decide +kernel
theorem dX5_numberEnd_17 : decode cX5_numberEnd 17 = .ok (.ireturn, 1) := by decide +kernel
theorem dX5_numberEnd_18 : decode cX5_numberEnd 18 = .ok (.iload_n 1, 1) := by decide +kernel
theorem dX5_numberEnd_19 : decode cX5_numberEnd 19 = .ok (.iconst 1, 1) := by decide +kernel
theorem dX5_numberEnd_20 : decode cX5_numberEnd 20 = .ok (.iadd, 1) := by decide +kernel
theorem dX5_numberEnd_21 : decode cX5_numberEnd 21 = .ok (.istore_n 2, 1) := by decide +kernel
theorem dX5_numberEnd_22 : decode cX5_numberEnd 22 = .ok (.aload_n 0, 1) := by decide +kernel
theorem dX5_numberEnd_23 : decode cX5_numberEnd 23 = .ok (.iload_n 1, 1) := by decide +kernel
theorem dX5_numberEnd_24 : decode cX5_numberEnd 24 = .ok (.invokevirtual 119, 3) := by decide +kernel
theorem dX5_numberEnd_27 : decode cX5_numberEnd 27 = .ok (.ifCond .le 24, 3) := by decide +kernel
theorem dX5_numberEnd_30 : decode cX5_numberEnd 30 = .ok (.iload_n 2, 1) := by decide +kernel
theorem dX5_numberEnd_31 : decode cX5_numberEnd 31 = .ok (.iload_n 1, 1) := by decide +kernel
theorem dX5_numberEnd_32 : decode cX5_numberEnd 32 = .ok (.iconst 3, 1) := by decide +kernel
theorem dX5_numberEnd_33 : decode cX5_numberEnd 33 = .ok (.iadd, 1) := by decide +kernel
theorem dX5_numberEnd_34 : decode cX5_numberEnd 34 = .ok (.if_icmp .ge 17, 3) := by decide +kernel
theorem dX5_numberEnd_37 : decode cX5_numberEnd 37 = .ok (.aload_n 0, 1) := by decide +kernel
theorem dX5_numberEnd_38 : decode cX5_numberEnd 38 = .ok (.iload_n 2, 1) := by decide +kernel
theorem dX5_numberEnd_39 : decode cX5_numberEnd 39 = .ok (.invokevirtual 119, 3) := by decide +kernel
theorem dX5_numberEnd_42 : decode cX5_numberEnd 42 = .ok (.ifCond .lt 9, 3) := by decide +kernel
theorem dX5_numberEnd_45 : decode cX5_numberEnd 45 = .ok (.iinc 2 1, 3) := by decide +kernel
theorem dX5_numberEnd_48 : decode cX5_numberEnd 48 = .ok (.goto (-26), 3) := by decide +kernel
theorem dX5_numberEnd_51 : decode cX5_numberEnd 51 = .ok (.iload_n 2, 1) := by decide +kernel
theorem dX5_numberEnd_52 : decode cX5_numberEnd 52 = .ok (.ireturn, 1) := by decide +kernel
theorem dX5_numberAt_0 : decode cX5_numberAt 0 = .ok (.iconst 0, 1) := by decide +kernel
theorem dX5_numberAt_1 : decode cX5_numberAt 1 = .ok (.istore_n 2, 1) := by decide +kernel
theorem dX5_numberAt_2 : decode cX5_numberAt 2 = .ok (.iload_n 1, 1) := by decide +kernel
theorem dX5_numberAt_3 : decode cX5_numberAt 3 = .ok (.istore_n 3, 1) := by decide +kernel
theorem dX5_numberAt_4 : decode cX5_numberAt 4 = .ok (.iload_n 3, 1) := by decide +kernel
theorem dX5_numberAt_5 : decode cX5_numberAt 5 = .ok (.aload_n 0, 1) := by decide +kernel
theorem dX5_numberAt_6 : decode cX5_numberAt 6 = .ok (.iload_n 1, 1) := by decide +kernel
theorem dX5_numberAt_7 : decode cX5_numberAt 7 = .ok (.invokevirtual 122, 3) := by decide +kernel
theorem dX5_numberAt_10 : decode cX5_numberAt 10 = .ok (.if_icmp .ge 20, 3) := by decide +kernel
theorem dX5_numberAt_13 : decode cX5_numberAt 13 = .ok (.bipush 10, 2) := by decide +kernel
theorem dX5_numberAt_15 : decode cX5_numberAt 15 = .ok (.iload_n 2, 1) := by decide +kernel
theorem dX5_numberAt_16 : decode cX5_numberAt 16 = .ok (.imul, 1) := by decide +kernel
theorem dX5_numberAt_17 : decode cX5_numberAt 17 = .ok (.aload_n 0, 1) := by decide +kernel
theorem dX5_numberAt_18 : decode cX5_numberAt 18 = .ok (.iload_n 3, 1) := by decide +kernel
theorem dX5_numberAt_19 : decode cX5_numberAt 19 = .ok (.invokevirtual 119, 3) := by decide +kernel
theorem dX5_numberAt_22 : decode cX5_numberAt 22 = .ok (.iadd, 1) := by decide +kernel
theorem dX5_numberAt_23 : decode cX5_numberAt 23 = .ok (.istore_n 2, 1) := by decide +kernel
theorem dX5_numberAt_24 : decode cX5_numberAt 24 = .ok (.iinc 3 1, 3) := by decide +kernel
theorem dX5_numberAt_27 : decode cX5_numberAt 27 = .ok (.goto (-23), 3) := by decide +kernel
theorem dX5_numberAt_30 : decode cX5_numberAt 30 = .ok (.iload_n 2, 1) := by decide +kernel
theorem dX5_numberAt_31 : decode cX5_numberAt 31 = .ok (.ireturn, 1) := by decide +kernel
theorem dX5_behind_0 : decode cX5_behind 0 = .ok (.iload_n 1, 1) := by decide +kernel
theorem dX5_behind_1 : decode cX5_behind 1 = .ok (.ifCond .ge 7, 3) := by decide +kernel
theorem dX5_behind_4 : decode cX5_behind 4 = .ok (.iload_n 1, 1) := by decide +kernel
theorem dX5_behind_5 : decode cX5_behind 5 = .ok (.goto 21, 3) := by decide +kernel
theorem dX5_behind_8 : decode cX5_behind 8 = .ok (.aload_n 0, 1) := by decide +kernel
theorem dX5_behind_9 : decode cX5_behind 9 = .ok (.iload_n 1, 1) := by decide +kernel
theorem dX5_behind_10 : decode cX5_behind 10 = .ok (.invokevirtual 116, 3) := by decide +kernel
theorem dX5_behind_13 : decode cX5_behind 13 = .ok (.iload_n 2, 1) := by decide +kernel
theorem dX5_behind_14 : decode cX5_behind 14 = .ok (.if_icmp .ne 9, 3) := by decide +kernel
theorem dX5_behind_17 : decode cX5_behind 17 = .ok (.iload_n 1, 1) := by decide +kernel
theorem dX5_behind_18 : decode cX5_behind 18 = .ok (.iconst 1, 1) := by decide +kernel
theorem dX5_behind_19 : decode cX5_behind 19 = .ok (.iadd, 1) := by decide +kernel
theorem dX5_behind_20 : decode cX5_behind 20 = .ok (.goto 6, 3) := by decide +kernel
theorem dX5_behind_23 : decode cX5_behind 23 = .ok (.iconst (-1), 1) := by decide +kernel
theorem dX5_behind_24 : decode cX5_behind 24 = .ok (.iload_n 1, 1) := by decide +kernel
theorem dX5_behind_25 : decode cX5_behind 25 = .ok (.isub, 1) := by decide +kernel
theorem dX5_behind_26 : decode cX5_behind 26 = .ok (.ireturn, 1) := by decide +kernel
theorem dX5_orderEnd_0 : decode cX5_orderEnd 0 = .ok (.aload_n 0, 1) := by decide +kernel
theorem dX5_orderEnd_1 : decode cX5_orderEnd 1 = .ok (.iload_n 1, 1) := by decide +kernel
theorem dX5_orderEnd_2 : decode cX5_orderEnd 2 = .ok (.invokevirtual 116, 3) := by decide +kernel
theorem dX5_orderEnd_5 : decode cX5_orderEnd 5 = .ok (.lookupswitch 100 #[(98, 79), (115, 35), (117, 79)], 35) := by decide +kernel
theorem dX5_orderEnd_40 : decode cX5_orderEnd 40 = .ok (.aload_n 0, 1) := by decide +kernel
theorem dX5_orderEnd_41 : decode cX5_orderEnd 41 = .ok (.aload_n 0, 1) := by decide +kernel
theorem dX5_orderEnd_42 : decode cX5_orderEnd 42 = .ok (.aload_n 0, 1) := by decide +kernel
theorem dX5_orderEnd_43 : decode cX5_orderEnd 43 = .ok (.iload_n 1, 1) := by decide +kernel
theorem dX5_orderEnd_44 : decode cX5_orderEnd 44 = .ok (.iconst 1, 1) := by decide +kernel
theorem dX5_orderEnd_45 : decode cX5_orderEnd 45 = .ok (.iadd, 1) := by decide +kernel
theorem dX5_orderEnd_46 : decode cX5_orderEnd 46 = .ok (.invokevirtual 122, 3) := by decide +kernel
theorem dX5_orderEnd_49 : decode cX5_orderEnd 49 = .ok (.bipush 44, 2) := by decide +kernel
theorem dX5_orderEnd_51 : decode cX5_orderEnd 51 = .ok (.invokevirtual 125, 3) := by decide +kernel
theorem dX5_orderEnd_54 : decode cX5_orderEnd 54 = .ok (.invokevirtual 122, 3) := by decide +kernel
theorem dX5_orderEnd_57 : decode cX5_orderEnd 57 = .ok (.istore_n 2, 1) := by decide +kernel
theorem dX5_orderEnd_58 : decode cX5_orderEnd 58 = .ok (.iload_n 2, 1) := by decide +kernel
theorem dX5_orderEnd_59 : decode cX5_orderEnd 59 = .ok (.ifCond .le 23, 3) := by decide +kernel
theorem dX5_orderEnd_62 : decode cX5_orderEnd 62 = .ok (.aload_n 0, 1) := by decide +kernel
theorem dX5_orderEnd_63 : decode cX5_orderEnd 63 = .ok (.iload_n 2, 1) := by decide +kernel
theorem dX5_orderEnd_64 : decode cX5_orderEnd 64 = .ok (.invokevirtual 116, 3) := by decide +kernel
theorem dX5_orderEnd_67 : decode cX5_orderEnd 67 = .ok (.bipush 42, 2) := by decide +kernel
theorem dX5_orderEnd_69 : decode cX5_orderEnd 69 = .ok (.if_icmp .ne 13, 3) := by decide +kernel
theorem dX5_orderEnd_72 : decode cX5_orderEnd 72 = .ok (.aload_n 0, 1) := by decide +kernel
theorem dX5_orderEnd_73 : decode cX5_orderEnd 73 = .ok (.iload_n 2, 1) := by decide +kernel
theorem dX5_orderEnd_74 : decode cX5_orderEnd 74 = .ok (.iconst 1, 1) := by decide +kernel
theorem dX5_orderEnd_75 : decode cX5_orderEnd 75 = .ok (.iadd, 1) := by decide +kernel
theorem dX5_orderEnd_76 : decode cX5_orderEnd 76 = .ok (.invokevirtual 122, 3) := by decide +kernel
theorem dX5_orderEnd_79 : decode cX5_orderEnd 79 = .ok (.goto 4, 3) := by decide +kernel
theorem dX5_orderEnd_82 : decode cX5_orderEnd 82 = .ok (.iload_n 2, 1) := by decide +kernel
theorem dX5_orderEnd_83 : decode cX5_orderEnd 83 = .ok (.ireturn, 1) := by decide +kernel
theorem dX5_orderEnd_84 : decode cX5_orderEnd 84 = .ok (.aload_n 0, 1) := by decide +kernel
theorem dX5_orderEnd_85 : decode cX5_orderEnd 85 = .ok (.iload_n 1, 1) := by decide +kernel
theorem dX5_orderEnd_86 : decode cX5_orderEnd 86 = .ok (.iconst 1, 1) := by decide +kernel
theorem dX5_orderEnd_87 : decode cX5_orderEnd 87 = .ok (.iadd, 1) := by decide +kernel
theorem dX5_orderEnd_88 : decode cX5_orderEnd 88 = .ok (.invokevirtual 119, 3) := by decide +kernel
theorem dX5_orderEnd_91 : decode cX5_orderEnd 91 = .ok (.ifCond .ge 10, 3) := by decide +kernel
theorem dX5_orderEnd_94 : decode cX5_orderEnd 94 = .ok (.bipush (-2), 2) := by decide +kernel
theorem dX5_orderEnd_96 : decode cX5_orderEnd 96 = .ok (.iload_n 1, 1) := by decide +kernel
theorem dX5_orderEnd_97 : decode cX5_orderEnd 97 = .ok (.isub, 1) := by decide +kernel
theorem dX5_orderEnd_98 : decode cX5_orderEnd 98 = .ok (.goto 6, 3) := by decide +kernel
theorem dX5_orderEnd_101 : decode cX5_orderEnd 101 = .ok (.iload_n 1, 1) := by decide +kernel
theorem dX5_orderEnd_102 : decode cX5_orderEnd 102 = .ok (.iconst 2, 1) := by decide +kernel
theorem dX5_orderEnd_103 : decode cX5_orderEnd 103 = .ok (.iadd, 1) := by decide +kernel
theorem dX5_orderEnd_104 : decode cX5_orderEnd 104 = .ok (.ireturn, 1) := by decide +kernel
theorem dX5_orderEnd_105 : decode cX5_orderEnd 105 = .ok (.iconst (-1), 1) := by decide +kernel
theorem dX5_orderEnd_106 : decode cX5_orderEnd 106 = .ok (.iload_n 1, 1) := by decide +kernel
theorem dX5_orderEnd_107 : decode cX5_orderEnd 107 = .ok (.isub, 1) := by decide +kernel
theorem dX5_orderEnd_108 : decode cX5_orderEnd 108 = .ok (.ireturn, 1) := by decide +kernel
theorem dX5_fault_0 : decode cX5_fault 0 = .ok (.iconst 0, 1) := by decide +kernel
theorem dX5_fault_1 : decode cX5_fault 1 = .ok (.istore_n 1, 1) := by decide +kernel
theorem dX5_fault_2 : decode cX5_fault 2 = .ok (.iconst 0, 1) := by decide +kernel
theorem dX5_fault_3 : decode cX5_fault 3 = .ok (.istore_n 2, 1) := by decide +kernel
theorem dX5_fault_4 : decode cX5_fault 4 = .ok (.iload_n 2, 1) := by decide +kernel
theorem dX5_fault_5 : decode cX5_fault 5 = .ok (.bipush 80, 2) := by decide +kernel
theorem dX5_fault_7 : decode cX5_fault 7 = .ok (.if_icmp .ge 50, 3) := by decide +kernel
theorem dX5_fault_10 : decode cX5_fault 10 = .ok (.aload_n 0, 1) := by decide +kernel
theorem dX5_fault_11 : decode cX5_fault 11 = .ok (.iload_n 1, 1) := by decide +kernel
theorem dX5_fault_12 : decode cX5_fault 12 = .ok (.invokevirtual 128, 3) := by decide +kernel
theorem dX5_fault_15 : decode cX5_fault 15 = .ok (.istore_n 3, 1) := by decide +kernel
theorem dX5_fault_16 : decode cX5_fault 16 = .ok (.iload_n 3, 1) := by decide +kernel
theorem dX5_fault_17 : decode cX5_fault 17 = .ok (.ifCond .ge 7, 3) := by decide +kernel
theorem dX5_fault_20 : decode cX5_fault 20 = .ok (.iconst (-1), 1) := by decide +kernel
theorem dX5_fault_21 : decode cX5_fault 21 = .ok (.iload_n 3, 1) := by decide +kernel
theorem dX5_fault_22 : decode cX5_fault 22 = .ok (.isub, 1) := by decide +kernel
theorem dX5_fault_23 : decode cX5_fault 23 = .ok (.ireturn, 1) := by decide +kernel
theorem dX5_fault_24 : decode cX5_fault 24 = .ok (.iload_n 3, 1) := by decide +kernel
theorem dX5_fault_25 : decode cX5_fault 25 = .ok (.aload_n 0, 1) := by decide +kernel
theorem dX5_fault_26 : decode cX5_fault 26 = .ok (.getfield 108, 3) := by decide +kernel
theorem dX5_fault_29 : decode cX5_fault 29 = .ok (.if_icmp .ne 6, 3) := by decide +kernel
theorem dX5_fault_32 : decode cX5_fault 32 = .ok (.bipush (-6), 2) := by decide +kernel
theorem dX5_fault_34 : decode cX5_fault 34 = .ok (.ireturn, 1) := by decide +kernel
theorem dX5_fault_35 : decode cX5_fault 35 = .ok (.aload_n 0, 1) := by decide +kernel
theorem dX5_fault_36 : decode cX5_fault 36 = .ok (.iload_n 3, 1) := by decide +kernel
theorem dX5_fault_37 : decode cX5_fault 37 = .ok (.invokevirtual 116, 3) := by decide +kernel
theorem dX5_fault_40 : decode cX5_fault 40 = .ok (.bipush 59, 2) := by decide +kernel
theorem dX5_fault_42 : decode cX5_fault 42 = .ok (.if_icmp .eq 5, 3) := by decide +kernel
theorem dX5_fault_45 : decode cX5_fault 45 = .ok (.iload_n 3, 1) := by decide +kernel
theorem dX5_fault_46 : decode cX5_fault 46 = .ok (.ireturn, 1) := by decide +kernel
theorem dX5_fault_47 : decode cX5_fault 47 = .ok (.iload_n 3, 1) := by decide +kernel
theorem dX5_fault_48 : decode cX5_fault 48 = .ok (.iconst 1, 1) := by decide +kernel
theorem dX5_fault_49 : decode cX5_fault 49 = .ok (.iadd, 1) := by decide +kernel
theorem dX5_fault_50 : decode cX5_fault 50 = .ok (.istore_n 1, 1) := by decide +kernel
theorem dX5_fault_51 : decode cX5_fault 51 = .ok (.iinc 2 1, 3) := by decide +kernel
theorem dX5_fault_54 : decode cX5_fault 54 = .ok (.goto (-50), 3) := by decide +kernel
theorem dX5_fault_57 : decode cX5_fault 57 = .ok (.bipush (-6), 2) := by decide +kernel
theorem dX5_fault_59 : decode cX5_fault 59 = .ok (.ireturn, 1) := by decide +kernel
theorem dX5_carries_0 : decode cX5_carries 0 = .ok (.aload_n 0, 1) := by decide +kernel
theorem dX5_carries_1 : decode cX5_carries 1 = .ok (.iload_n 1, 1) := by decide +kernel
theorem dX5_carries_2 : decode cX5_carries 2 = .ok (.iconst 1, 1) := by decide +kernel
theorem dX5_carries_3 : decode cX5_carries 3 = .ok (.iadd, 1) := by decide +kernel
theorem dX5_carries_4 : decode cX5_carries 4 = .ok (.invokevirtual 119, 3) := by decide +kernel
theorem dX5_carries_7 : decode cX5_carries 7 = .ok (.istore_n 2, 1) := by decide +kernel
theorem dX5_carries_8 : decode cX5_carries 8 = .ok (.iconst 0, 1) := by decide +kernel
theorem dX5_carries_9 : decode cX5_carries 9 = .ok (.istore_n 3, 1) := by decide +kernel
theorem dX5_carries_10 : decode cX5_carries 10 = .ok (.iconst 0, 1) := by decide +kernel
theorem dX5_carries_11 : decode cX5_carries 11 = .ok (.istore 4, 2) := by decide +kernel
theorem dX5_carries_13 : decode cX5_carries 13 = .ok (.aload_n 0, 1) := by decide +kernel
theorem dX5_carries_14 : decode cX5_carries 14 = .ok (.iload_n 1, 1) := by decide +kernel
theorem dX5_carries_15 : decode cX5_carries 15 = .ok (.invokevirtual 116, 3) := by decide +kernel
theorem dX5_carries_18 : decode cX5_carries 18 = .ok (.lookupswitch 74 #[(98, 26), (117, 50)], 26) := by decide +kernel
theorem dX5_carries_44 : decode cX5_carries 44 = .ok (.aload_n 0, 1) := by decide +kernel
theorem dX5_carries_45 : decode cX5_carries 45 = .ok (.iload_n 2, 1) := by decide +kernel
theorem dX5_carries_46 : decode cX5_carries 46 = .ok (.iconst 1, 1) := by decide +kernel
theorem dX5_carries_47 : decode cX5_carries 47 = .ok (.invokevirtual 98, 3) := by decide +kernel
theorem dX5_carries_50 : decode cX5_carries 50 = .ok (.istore_n 3, 1) := by decide +kernel
theorem dX5_carries_51 : decode cX5_carries 51 = .ok (.iload_n 3, 1) := by decide +kernel
theorem dX5_carries_52 : decode cX5_carries 52 = .ok (.ifCond .ge 7, 3) := by decide +kernel
theorem dX5_carries_55 : decode cX5_carries 55 = .ok (.iconst 0, 1) := by decide +kernel
theorem dX5_carries_56 : decode cX5_carries 56 = .ok (.goto 8, 3) := by decide +kernel
theorem dX5_carries_59 : decode cX5_carries 59 = .ok (.aload_n 0, 1) := by decide +kernel
theorem dX5_carries_60 : decode cX5_carries 60 = .ok (.iload_n 2, 1) := by decide +kernel
theorem dX5_carries_61 : decode cX5_carries 61 = .ok (.invokevirtual 102, 3) := by decide +kernel
theorem dX5_carries_64 : decode cX5_carries 64 = .ok (.istore 4, 2) := by decide +kernel
theorem dX5_carries_66 : decode cX5_carries 66 = .ok (.iload_n 3, 1) := by decide +kernel
theorem dX5_carries_67 : decode cX5_carries 67 = .ok (.ireturn, 1) := by decide +kernel
theorem dX5_carries_68 : decode cX5_carries 68 = .ok (.aload_n 0, 1) := by decide +kernel
theorem dX5_carries_69 : decode cX5_carries 69 = .ok (.iload_n 2, 1) := by decide +kernel
theorem dX5_carries_70 : decode cX5_carries 70 = .ok (.iconst 0, 1) := by decide +kernel
theorem dX5_carries_71 : decode cX5_carries 71 = .ok (.invokevirtual 98, 3) := by decide +kernel
theorem dX5_carries_74 : decode cX5_carries 74 = .ok (.istore_n 3, 1) := by decide +kernel
theorem dX5_carries_75 : decode cX5_carries 75 = .ok (.iload_n 3, 1) := by decide +kernel
theorem dX5_carries_76 : decode cX5_carries 76 = .ok (.ifCond .ge 7, 3) := by decide +kernel
theorem dX5_carries_79 : decode cX5_carries 79 = .ok (.iconst 0, 1) := by decide +kernel
theorem dX5_carries_80 : decode cX5_carries 80 = .ok (.goto 8, 3) := by decide +kernel
theorem dX5_carries_83 : decode cX5_carries 83 = .ok (.aload_n 0, 1) := by decide +kernel
theorem dX5_carries_84 : decode cX5_carries 84 = .ok (.iload_n 2, 1) := by decide +kernel
theorem dX5_carries_85 : decode cX5_carries 85 = .ok (.invokevirtual 105, 3) := by decide +kernel
theorem dX5_carries_88 : decode cX5_carries 88 = .ok (.istore 4, 2) := by decide +kernel
theorem dX5_carries_90 : decode cX5_carries 90 = .ok (.iload_n 3, 1) := by decide +kernel
theorem dX5_carries_91 : decode cX5_carries 91 = .ok (.ireturn, 1) := by decide +kernel
theorem dX5_carries_92 : decode cX5_carries 92 = .ok (.aload_n 0, 1) := by decide +kernel
theorem dX5_carries_93 : decode cX5_carries 93 = .ok (.iload_n 1, 1) := by decide +kernel
theorem dX5_carries_94 : decode cX5_carries 94 = .ok (.iconst 1, 1) := by decide +kernel
theorem dX5_carries_95 : decode cX5_carries 95 = .ok (.iadd, 1) := by decide +kernel
theorem dX5_carries_96 : decode cX5_carries 96 = .ok (.invokevirtual 131, 3) := by decide +kernel
theorem dX5_carries_99 : decode cX5_carries 99 = .ok (.istore 5, 2) := by decide +kernel
theorem dX5_carries_101 : decode cX5_carries 101 = .ok (.aload_n 0, 1) := by decide +kernel
theorem dX5_carries_102 : decode cX5_carries 102 = .ok (.aload_n 0, 1) := by decide +kernel
theorem dX5_carries_103 : decode cX5_carries 103 = .ok (.iload_n 1, 1) := by decide +kernel
theorem dX5_carries_104 : decode cX5_carries 104 = .ok (.iconst 1, 1) := by decide +kernel
theorem dX5_carries_105 : decode cX5_carries 105 = .ok (.iadd, 1) := by decide +kernel
theorem dX5_carries_106 : decode cX5_carries 106 = .ok (.invokevirtual 122, 3) := by decide +kernel
theorem dX5_carries_109 : decode cX5_carries 109 = .ok (.iconst 1, 1) := by decide +kernel
theorem dX5_carries_110 : decode cX5_carries 110 = .ok (.iadd, 1) := by decide +kernel
theorem dX5_carries_111 : decode cX5_carries 111 = .ok (.invokevirtual 131, 3) := by decide +kernel
theorem dX5_carries_114 : decode cX5_carries 114 = .ok (.istore 6, 2) := by decide +kernel
theorem dX5_carries_116 : decode cX5_carries 116 = .ok (.aload_n 0, 1) := by decide +kernel
theorem dX5_carries_117 : decode cX5_carries 117 = .ok (.iload 5, 2) := by decide +kernel
theorem dX5_carries_119 : decode cX5_carries 119 = .ok (.iload 6, 2) := by decide +kernel
theorem dX5_carries_121 : decode cX5_carries 121 = .ok (.iconst 1, 1) := by decide +kernel
theorem dX5_carries_122 : decode cX5_carries 122 = .ok (.invokevirtual 86, 3) := by decide +kernel
theorem dX5_carries_125 : decode cX5_carries 125 = .ok (.istore_n 3, 1) := by decide +kernel
theorem dX5_carries_126 : decode cX5_carries 126 = .ok (.iload_n 3, 1) := by decide +kernel
theorem dX5_carries_127 : decode cX5_carries 127 = .ok (.ifCond .ne 12, 3) := by decide +kernel
theorem dX5_carries_130 : decode cX5_carries 130 = .ok (.aload_n 0, 1) := by decide +kernel
theorem dX5_carries_131 : decode cX5_carries 131 = .ok (.iconst 0, 1) := by decide +kernel
theorem dX5_carries_132 : decode cX5_carries 132 = .ok (.iload 5, 2) := by decide +kernel
theorem dX5_carries_134 : decode cX5_carries 134 = .ok (.iload 6, 2) := by decide +kernel
theorem dX5_carries_136 : decode cX5_carries 136 = .ok (.invokevirtual 89, 3) := by decide +kernel
theorem dX5_carries_139 : decode cX5_carries 139 = .ok (.iload_n 3, 1) := by decide +kernel
theorem dX5_carries_140 : decode cX5_carries 140 = .ok (.ireturn, 1) := by decide +kernel
theorem dX5_ordersAt_0 : decode cX5_ordersAt 0 = .ok (.aload_n 0, 1) := by decide +kernel
theorem dX5_ordersAt_1 : decode cX5_ordersAt 1 = .ok (.iload_n 1, 1) := by decide +kernel
theorem dX5_ordersAt_2 : decode cX5_ordersAt 2 = .ok (.invokevirtual 116, 3) := by decide +kernel
theorem dX5_ordersAt_5 : decode cX5_ordersAt 5 = .ok (.bipush 115, 2) := by decide +kernel
theorem dX5_ordersAt_7 : decode cX5_ordersAt 7 = .ok (.if_icmp .eq 5, 3) := by decide +kernel
theorem dX5_ordersAt_10 : decode cX5_ordersAt 10 = .ok (.iconst 1, 1) := by decide +kernel
theorem dX5_ordersAt_11 : decode cX5_ordersAt 11 = .ok (.ireturn, 1) := by decide +kernel
theorem dX5_ordersAt_12 : decode cX5_ordersAt 12 = .ok (.aload_n 0, 1) := by decide +kernel
theorem dX5_ordersAt_13 : decode cX5_ordersAt 13 = .ok (.aload_n 0, 1) := by decide +kernel
theorem dX5_ordersAt_14 : decode cX5_ordersAt 14 = .ok (.iload_n 1, 1) := by decide +kernel
theorem dX5_ordersAt_15 : decode cX5_ordersAt 15 = .ok (.iconst 1, 1) := by decide +kernel
theorem dX5_ordersAt_16 : decode cX5_ordersAt 16 = .ok (.iadd, 1) := by decide +kernel
theorem dX5_ordersAt_17 : decode cX5_ordersAt 17 = .ok (.invokevirtual 122, 3) := by decide +kernel
theorem dX5_ordersAt_20 : decode cX5_ordersAt 20 = .ok (.iconst 1, 1) := by decide +kernel
theorem dX5_ordersAt_21 : decode cX5_ordersAt 21 = .ok (.iadd, 1) := by decide +kernel
theorem dX5_ordersAt_22 : decode cX5_ordersAt 22 = .ok (.invokevirtual 122, 3) := by decide +kernel
theorem dX5_ordersAt_25 : decode cX5_ordersAt 25 = .ok (.istore_n 2, 1) := by decide +kernel
theorem dX5_ordersAt_26 : decode cX5_ordersAt 26 = .ok (.aload_n 0, 1) := by decide +kernel
theorem dX5_ordersAt_27 : decode cX5_ordersAt 27 = .ok (.iload_n 2, 1) := by decide +kernel
theorem dX5_ordersAt_28 : decode cX5_ordersAt 28 = .ok (.invokevirtual 116, 3) := by decide +kernel
theorem dX5_ordersAt_31 : decode cX5_ordersAt 31 = .ok (.bipush 42, 2) := by decide +kernel
theorem dX5_ordersAt_33 : decode cX5_ordersAt 33 = .ok (.if_icmp .ne 13, 3) := by decide +kernel
theorem dX5_ordersAt_36 : decode cX5_ordersAt 36 = .ok (.aload_n 0, 1) := by decide +kernel
theorem dX5_ordersAt_37 : decode cX5_ordersAt 37 = .ok (.iload_n 2, 1) := by decide +kernel
theorem dX5_ordersAt_38 : decode cX5_ordersAt 38 = .ok (.iconst 1, 1) := by decide +kernel
theorem dX5_ordersAt_39 : decode cX5_ordersAt 39 = .ok (.iadd, 1) := by decide +kernel
theorem dX5_ordersAt_40 : decode cX5_ordersAt 40 = .ok (.invokevirtual 131, 3) := by decide +kernel
theorem dX5_ordersAt_43 : decode cX5_ordersAt 43 = .ok (.goto 4, 3) := by decide +kernel
theorem dX5_ordersAt_46 : decode cX5_ordersAt 46 = .ok (.iconst 1, 1) := by decide +kernel
theorem dX5_ordersAt_47 : decode cX5_ordersAt 47 = .ok (.ireturn, 1) := by decide +kernel
theorem dX5_carryOut_0 : decode cX5_carryOut 0 = .ok (.aload_n 0, 1) := by decide +kernel
theorem dX5_carryOut_1 : decode cX5_carryOut 1 = .ok (.invokevirtual 134, 3) := by decide +kernel
theorem dX5_carryOut_4 : decode cX5_carryOut 4 = .ok (.bipush (-6), 2) := by decide +kernel
theorem dX5_carryOut_6 : decode cX5_carryOut 6 = .ok (.if_icmp .eq 6, 3) := by decide +kernel
theorem dX5_carryOut_9 : decode cX5_carryOut 9 = .ok (.bipush (-3), 2) := by decide +kernel
theorem dX5_carryOut_11 : decode cX5_carryOut 11 = .ok (.ireturn, 1) := by decide +kernel
theorem dX5_carryOut_12 : decode cX5_carryOut 12 = .ok (.aload_n 0, 1) := by decide +kernel
theorem dX5_carryOut_13 : decode cX5_carryOut 13 = .ok (.invokevirtual 79, 3) := by decide +kernel
theorem dX5_carryOut_16 : decode cX5_carryOut 16 = .ok (.iconst 0, 1) := by decide +kernel
theorem dX5_carryOut_17 : decode cX5_carryOut 17 = .ok (.istore_n 1, 1) := by decide +kernel
theorem dX5_carryOut_18 : decode cX5_carryOut 18 = .ok (.iconst 0, 1) := by decide +kernel
theorem dX5_carryOut_19 : decode cX5_carryOut 19 = .ok (.istore_n 2, 1) := by decide +kernel
theorem dX5_carryOut_20 : decode cX5_carryOut 20 = .ok (.iconst 1, 1) := by decide +kernel
theorem dX5_carryOut_21 : decode cX5_carryOut 21 = .ok (.istore_n 3, 1) := by decide +kernel
theorem dX5_carryOut_22 : decode cX5_carryOut 22 = .ok (.iload_n 2, 1) := by decide +kernel
theorem dX5_carryOut_23 : decode cX5_carryOut 23 = .ok (.aload_n 0, 1) := by decide +kernel
theorem dX5_carryOut_24 : decode cX5_carryOut 24 = .ok (.getfield 108, 3) := by decide +kernel
theorem dX5_carryOut_27 : decode cX5_carryOut 27 = .ok (.if_icmp .ge 66, 3) := by decide +kernel
theorem dX5_carryOut_30 : decode cX5_carryOut 30 = .ok (.iload_n 3, 1) := by decide +kernel
theorem dX5_carryOut_31 : decode cX5_carryOut 31 = .ok (.ifCond .eq 62, 3) := by decide +kernel
theorem dX5_carryOut_34 : decode cX5_carryOut 34 = .ok (.aload_n 0, 1) := by decide +kernel
theorem dX5_carryOut_35 : decode cX5_carryOut 35 = .ok (.iload_n 2, 1) := by decide +kernel
theorem dX5_carryOut_36 : decode cX5_carryOut 36 = .ok (.invokevirtual 138, 3) := by decide +kernel
theorem dX5_carryOut_39 : decode cX5_carryOut 39 = .ok (.istore 4, 2) := by decide +kernel
theorem dX5_carryOut_41 : decode cX5_carryOut 41 = .ok (.iload 4, 2) := by decide +kernel
theorem dX5_carryOut_43 : decode cX5_carryOut 43 = .ok (.ifCond .le 39, 3) := by decide +kernel
theorem dX5_carryOut_46 : decode cX5_carryOut 46 = .ok (.iload_n 3, 1) := by decide +kernel
theorem dX5_carryOut_47 : decode cX5_carryOut 47 = .ok (.ifCond .eq 35, 3) := by decide +kernel
theorem dX5_carryOut_50 : decode cX5_carryOut 50 = .ok (.aload_n 0, 1) := by decide +kernel
theorem dX5_carryOut_51 : decode cX5_carryOut 51 = .ok (.iload_n 2, 1) := by decide +kernel
theorem dX5_carryOut_52 : decode cX5_carryOut 52 = .ok (.invokevirtual 141, 3) := by decide +kernel
theorem dX5_carryOut_55 : decode cX5_carryOut 55 = .ok (.ifCond .ne 7, 3) := by decide +kernel
theorem dX5_carryOut_58 : decode cX5_carryOut 58 = .ok (.iconst 1, 1) := by decide +kernel
theorem dX5_carryOut_59 : decode cX5_carryOut 59 = .ok (.goto 4, 3) := by decide +kernel
theorem dX5_carryOut_62 : decode cX5_carryOut 62 = .ok (.iconst 0, 1) := by decide +kernel
theorem dX5_carryOut_63 : decode cX5_carryOut 63 = .ok (.istore_n 3, 1) := by decide +kernel
theorem dX5_carryOut_64 : decode cX5_carryOut 64 = .ok (.iload_n 1, 1) := by decide +kernel
theorem dX5_carryOut_65 : decode cX5_carryOut 65 = .ok (.iload_n 3, 1) := by decide +kernel
theorem dX5_carryOut_66 : decode cX5_carryOut 66 = .ok (.ifCond .eq 7, 3) := by decide +kernel
theorem dX5_carryOut_69 : decode cX5_carryOut 69 = .ok (.iconst 1, 1) := by decide +kernel
theorem dX5_carryOut_70 : decode cX5_carryOut 70 = .ok (.goto 4, 3) := by decide +kernel
theorem dX5_carryOut_73 : decode cX5_carryOut 73 = .ok (.iconst 0, 1) := by decide +kernel
theorem dX5_carryOut_74 : decode cX5_carryOut 74 = .ok (.iadd, 1) := by decide +kernel
theorem dX5_carryOut_75 : decode cX5_carryOut 75 = .ok (.istore_n 1, 1) := by decide +kernel
theorem dX5_carryOut_76 : decode cX5_carryOut 76 = .ok (.iinc 4 (-1), 3) := by decide +kernel
theorem dX5_carryOut_79 : decode cX5_carryOut 79 = .ok (.goto (-38), 3) := by decide +kernel
theorem dX5_carryOut_82 : decode cX5_carryOut 82 = .ok (.aload_n 0, 1) := by decide +kernel
theorem dX5_carryOut_83 : decode cX5_carryOut 83 = .ok (.iload_n 2, 1) := by decide +kernel
theorem dX5_carryOut_84 : decode cX5_carryOut 84 = .ok (.invokevirtual 128, 3) := by decide +kernel
theorem dX5_carryOut_87 : decode cX5_carryOut 87 = .ok (.iconst 1, 1) := by decide +kernel
theorem dX5_carryOut_88 : decode cX5_carryOut 88 = .ok (.iadd, 1) := by decide +kernel
theorem dX5_carryOut_89 : decode cX5_carryOut 89 = .ok (.istore_n 2, 1) := by decide +kernel
theorem dX5_carryOut_90 : decode cX5_carryOut 90 = .ok (.goto (-68), 3) := by decide +kernel
theorem dX5_carryOut_93 : decode cX5_carryOut 93 = .ok (.aload_n 0, 1) := by decide +kernel
theorem dX5_carryOut_94 : decode cX5_carryOut 94 = .ok (.iconst 0, 1) := by decide +kernel
theorem dX5_carryOut_95 : decode cX5_carryOut 95 = .ok (.putfield 108, 3) := by decide +kernel
theorem dX5_carryOut_98 : decode cX5_carryOut 98 = .ok (.iload_n 1, 1) := by decide +kernel
theorem dX5_carryOut_99 : decode cX5_carryOut 99 = .ok (.ireturn, 1) := by decide +kernel
theorem dX5_undo_0 : decode cX5_undo 0 = .ok (.aload_n 0, 1) := by decide +kernel
theorem dX5_undo_1 : decode cX5_undo 1 = .ok (.getfield 30, 3) := by decide +kernel
theorem dX5_undo_4 : decode cX5_undo 4 = .ok (.ifCond .ne 6, 3) := by decide +kernel
theorem dX5_undo_7 : decode cX5_undo 7 = .ok (.bipush (-5), 2) := by decide +kernel
theorem dX5_undo_9 : decode cX5_undo 9 = .ok (.ireturn, 1) := by decide +kernel
theorem dX5_undo_10 : decode cX5_undo 10 = .ok (.aload_n 0, 1) := by decide +kernel
theorem dX5_undo_11 : decode cX5_undo 11 = .ok (.dup, 1) := by decide +kernel
theorem dX5_undo_12 : decode cX5_undo 12 = .ok (.getfield 30, 3) := by decide +kernel
theorem dX5_undo_15 : decode cX5_undo 15 = .ok (.iconst 1, 1) := by decide +kernel
theorem dX5_undo_16 : decode cX5_undo 16 = .ok (.isub, 1) := by decide +kernel
theorem dX5_undo_17 : decode cX5_undo 17 = .ok (.putfield 30, 3) := by decide +kernel
theorem dX5_undo_20 : decode cX5_undo 20 = .ok (.iconst 0, 1) := by decide +kernel
theorem dX5_undo_21 : decode cX5_undo 21 = .ok (.istore_n 1, 1) := by decide +kernel
theorem dX5_undo_22 : decode cX5_undo 22 = .ok (.iload_n 1, 1) := by decide +kernel
theorem dX5_undo_23 : decode cX5_undo 23 = .ok (.bipush 61, 2) := by decide +kernel
theorem dX5_undo_25 : decode cX5_undo 25 = .ok (.if_icmp .ge 29, 3) := by decide +kernel
theorem dX5_undo_28 : decode cX5_undo 28 = .ok (.aload_n 0, 1) := by decide +kernel
theorem dX5_undo_29 : decode cX5_undo 29 = .ok (.getfield 7, 3) := by decide +kernel
theorem dX5_undo_32 : decode cX5_undo 32 = .ok (.iload_n 1, 1) := by decide +kernel
theorem dX5_undo_33 : decode cX5_undo 33 = .ok (.aload_n 0, 1) := by decide +kernel
theorem dX5_undo_34 : decode cX5_undo 34 = .ok (.getfield 13, 3) := by decide +kernel
theorem dX5_undo_37 : decode cX5_undo 37 = .ok (.bipush 61, 2) := by decide +kernel
theorem dX5_undo_39 : decode cX5_undo 39 = .ok (.aload_n 0, 1) := by decide +kernel
theorem dX5_undo_40 : decode cX5_undo 40 = .ok (.getfield 30, 3) := by decide +kernel
theorem dX5_undo_43 : decode cX5_undo 43 = .ok (.imul, 1) := by decide +kernel
theorem dX5_undo_44 : decode cX5_undo 44 = .ok (.iload_n 1, 1) := by decide +kernel
theorem dX5_undo_45 : decode cX5_undo 45 = .ok (.iadd, 1) := by decide +kernel
theorem dX5_undo_46 : decode cX5_undo 46 = .ok (.iaload, 1) := by decide +kernel
theorem dX5_undo_47 : decode cX5_undo 47 = .ok (.iastore, 1) := by decide +kernel
theorem dX5_undo_48 : decode cX5_undo 48 = .ok (.iinc 1 1, 3) := by decide +kernel
theorem dX5_undo_51 : decode cX5_undo 51 = .ok (.goto (-29), 3) := by decide +kernel
theorem dX5_undo_54 : decode cX5_undo 54 = .ok (.aload_n 0, 1) := by decide +kernel
theorem dX5_undo_55 : decode cX5_undo 55 = .ok (.getfield 30, 3) := by decide +kernel
theorem dX5_undo_58 : decode cX5_undo 58 = .ok (.ireturn, 1) := by decide +kernel
theorem dX5_save_0 : decode cX5_save 0 = .ok (.iload_n 1, 1) := by decide +kernel
theorem dX5_save_1 : decode cX5_save 1 = .ok (.iconst 0, 1) := by decide +kernel
theorem dX5_save_2 : decode cX5_save 2 = .ok (.iconst 1, 1) := by decide +kernel
theorem dX5_save_3 : decode cX5_save 3 = .ok (.invokestatic 26, 3) := by decide +kernel
theorem dX5_save_6 : decode cX5_save 6 = .ok (.ifCond .ne 6, 3) := by decide +kernel
theorem dX5_save_9 : decode cX5_save 9 = .ok (.bipush (-2), 2) := by decide +kernel
theorem dX5_save_11 : decode cX5_save 11 = .ok (.ireturn, 1) := by decide +kernel
theorem dX5_save_12 : decode cX5_save 12 = .ok (.iconst 0, 1) := by decide +kernel
theorem dX5_save_13 : decode cX5_save 13 = .ok (.istore_n 2, 1) := by decide +kernel
theorem dX5_save_14 : decode cX5_save 14 = .ok (.iload_n 2, 1) := by decide +kernel
theorem dX5_save_15 : decode cX5_save 15 = .ok (.bipush 61, 2) := by decide +kernel
theorem dX5_save_17 : decode cX5_save 17 = .ok (.if_icmp .ge 26, 3) := by decide +kernel
theorem dX5_save_20 : decode cX5_save 20 = .ok (.aload_n 0, 1) := by decide +kernel
theorem dX5_save_21 : decode cX5_save 21 = .ok (.getfield 16, 3) := by decide +kernel
theorem dX5_save_24 : decode cX5_save 24 = .ok (.bipush 61, 2) := by decide +kernel
theorem dX5_save_26 : decode cX5_save 26 = .ok (.iload_n 1, 1) := by decide +kernel
theorem dX5_save_27 : decode cX5_save 27 = .ok (.imul, 1) := by decide +kernel
theorem dX5_save_28 : decode cX5_save 28 = .ok (.iload_n 2, 1) := by decide +kernel
theorem dX5_save_29 : decode cX5_save 29 = .ok (.iadd, 1) := by decide +kernel
theorem dX5_save_30 : decode cX5_save 30 = .ok (.aload_n 0, 1) := by decide +kernel
theorem dX5_save_31 : decode cX5_save 31 = .ok (.getfield 7, 3) := by decide +kernel
theorem dX5_save_34 : decode cX5_save 34 = .ok (.iload_n 2, 1) := by decide +kernel
theorem dX5_save_35 : decode cX5_save 35 = .ok (.iaload, 1) := by decide +kernel
theorem dX5_save_36 : decode cX5_save 36 = .ok (.iastore, 1) := by decide +kernel
theorem dX5_save_37 : decode cX5_save 37 = .ok (.iinc 2 1, 3) := by decide +kernel
theorem dX5_save_40 : decode cX5_save 40 = .ok (.goto (-26), 3) := by decide +kernel
theorem dX5_save_43 : decode cX5_save 43 = .ok (.aload_n 0, 1) := by decide +kernel
theorem dX5_save_44 : decode cX5_save 44 = .ok (.getfield 19, 3) := by decide +kernel
theorem dX5_save_47 : decode cX5_save 47 = .ok (.iload_n 1, 1) := by decide +kernel
theorem dX5_save_48 : decode cX5_save 48 = .ok (.iconst 1, 1) := by decide +kernel
theorem dX5_save_49 : decode cX5_save 49 = .ok (.bastore, 1) := by decide +kernel
theorem dX5_save_50 : decode cX5_save 50 = .ok (.aload_n 0, 1) := by decide +kernel
theorem dX5_save_51 : decode cX5_save 51 = .ok (.getfield 7, 3) := by decide +kernel
theorem dX5_save_54 : decode cX5_save 54 = .ok (.bipush 21, 2) := by decide +kernel
theorem dX5_save_56 : decode cX5_save 56 = .ok (.iaload, 1) := by decide +kernel
theorem dX5_save_57 : decode cX5_save 57 = .ok (.ireturn, 1) := by decide +kernel
theorem dX5_restore_0 : decode cX5_restore 0 = .ok (.iload_n 1, 1) := by decide +kernel
theorem dX5_restore_1 : decode cX5_restore 1 = .ok (.iconst 0, 1) := by decide +kernel
theorem dX5_restore_2 : decode cX5_restore 2 = .ok (.iconst 1, 1) := by decide +kernel
theorem dX5_restore_3 : decode cX5_restore 3 = .ok (.invokestatic 26, 3) := by decide +kernel
theorem dX5_restore_6 : decode cX5_restore 6 = .ok (.ifCond .ne 6, 3) := by decide +kernel
theorem dX5_restore_9 : decode cX5_restore 9 = .ok (.bipush (-2), 2) := by decide +kernel
theorem dX5_restore_11 : decode cX5_restore 11 = .ok (.ireturn, 1) := by decide +kernel
theorem dX5_restore_12 : decode cX5_restore 12 = .ok (.aload_n 0, 1) := by decide +kernel
theorem dX5_restore_13 : decode cX5_restore 13 = .ok (.getfield 19, 3) := by decide +kernel
theorem dX5_restore_16 : decode cX5_restore 16 = .ok (.iload_n 1, 1) := by decide +kernel
theorem dX5_restore_17 : decode cX5_restore 17 = .ok (.baload, 1) := by decide +kernel
theorem dX5_restore_18 : decode cX5_restore 18 = .ok (.ifCond .ne 6, 3) := by decide +kernel
theorem dX5_restore_21 : decode cX5_restore 21 = .ok (.bipush (-5), 2) := by decide +kernel
theorem dX5_restore_23 : decode cX5_restore 23 = .ok (.ireturn, 1) := by decide +kernel
theorem dX5_restore_24 : decode cX5_restore 24 = .ok (.aload_n 0, 1) := by decide +kernel
theorem dX5_restore_25 : decode cX5_restore 25 = .ok (.invokevirtual 79, 3) := by decide +kernel
theorem dX5_restore_28 : decode cX5_restore 28 = .ok (.iconst 0, 1) := by decide +kernel
theorem dX5_restore_29 : decode cX5_restore 29 = .ok (.istore_n 2, 1) := by decide +kernel
theorem dX5_restore_30 : decode cX5_restore 30 = .ok (.iload_n 2, 1) := by decide +kernel
theorem dX5_restore_31 : decode cX5_restore 31 = .ok (.bipush 61, 2) := by decide +kernel
theorem dX5_restore_33 : decode cX5_restore 33 = .ok (.if_icmp .ge 26, 3) := by decide +kernel
theorem dX5_restore_36 : decode cX5_restore 36 = .ok (.aload_n 0, 1) := by decide +kernel
theorem dX5_restore_37 : decode cX5_restore 37 = .ok (.getfield 7, 3) := by decide +kernel
theorem dX5_restore_40 : decode cX5_restore 40 = .ok (.iload_n 2, 1) := by decide +kernel
theorem dX5_restore_41 : decode cX5_restore 41 = .ok (.aload_n 0, 1) := by decide +kernel
theorem dX5_restore_42 : decode cX5_restore 42 = .ok (.getfield 16, 3) := by decide +kernel
theorem dX5_restore_45 : decode cX5_restore 45 = .ok (.bipush 61, 2) := by decide +kernel
theorem dX5_restore_47 : decode cX5_restore 47 = .ok (.iload_n 1, 1) := by decide +kernel
theorem dX5_restore_48 : decode cX5_restore 48 = .ok (.imul, 1) := by decide +kernel
theorem dX5_restore_49 : decode cX5_restore 49 = .ok (.iload_n 2, 1) := by decide +kernel
theorem dX5_restore_50 : decode cX5_restore 50 = .ok (.iadd, 1) := by decide +kernel
theorem dX5_restore_51 : decode cX5_restore 51 = .ok (.iaload, 1) := by decide +kernel
theorem dX5_restore_52 : decode cX5_restore 52 = .ok (.iastore, 1) := by decide +kernel
theorem dX5_restore_53 : decode cX5_restore 53 = .ok (.iinc 2 1, 3) := by decide +kernel
theorem dX5_restore_56 : decode cX5_restore 56 = .ok (.goto (-26), 3) := by decide +kernel
theorem dX5_restore_59 : decode cX5_restore 59 = .ok (.aload_n 0, 1) := by decide +kernel
theorem dX5_restore_60 : decode cX5_restore 60 = .ok (.getfield 7, 3) := by decide +kernel
theorem dX5_restore_63 : decode cX5_restore 63 = .ok (.bipush 21, 2) := by decide +kernel
theorem dX5_restore_65 : decode cX5_restore 65 = .ok (.iaload, 1) := by decide +kernel
theorem dX5_restore_66 : decode cX5_restore 66 = .ok (.ireturn, 1) := by decide +kernel
