theorem dX0_init_0 : decode cX0_init 0 = .ok (.aload_n 0, 1) := by decide +kernel
theorem dX0_init_1 : decode cX0_init 1 = .ok (.invokespecial 3, 3) := by decide +kernel
theorem dX0_init_4 : decode cX0_init 4 = .ok (.aload_n 0, 1) := by decide +kernel
theorem dX0_init_5 : decode cX0_init 5 = .ok (.bipush 9, 2) := by decide +kernel
theorem dX0_init_7 : decode cX0_init 7 = .ok (.newarray .int, 2) := by decide +kernel
theorem dX0_init_9 : decode cX0_init 9 = .ok (.putfield 9, 3) := by decide +kernel
theorem dX0_init_12 : decode cX0_init 12 = .ok (.aload_n 0, 1) := by decide +kernel
theorem dX0_init_13 : decode cX0_init 13 = .ok (.bipush 9, 2) := by decide +kernel
theorem dX0_init_15 : decode cX0_init 15 = .ok (.newarray .int, 2) := by decide +kernel
theorem dX0_init_17 : decode cX0_init 17 = .ok (.putfield 15, 3) := by decide +kernel
theorem dX0_init_20 : decode cX0_init 20 = .ok (.aload_n 0, 1) := by decide +kernel
theorem dX0_init_21 : decode cX0_init 21 = .ok (.bipush 9, 2) := by decide +kernel
theorem dX0_init_23 : decode cX0_init 23 = .ok (.newarray .int, 2) := by decide +kernel
theorem dX0_init_25 : decode cX0_init 25 = .ok (.putfield 18, 3) := by decide +kernel
theorem dX0_init_28 : decode cX0_init 28 = .ok (.aload_n 0, 1) := by decide +kernel
theorem dX0_init_29 : decode cX0_init 29 = .ok (.bipush (-6), 2) := by decide +kernel
theorem dX0_init_31 : decode cX0_init 31 = .ok (.putfield 21, 3) := by decide +kernel
theorem dX0_init_34 : decode cX0_init 34 = .ok (.return_, 1) := by decide +kernel
theorem dX0_becomeLike_0 : decode cX0_becomeLike 0 = .ok (.aload_n 1, 1) := by decide +kernel
theorem dX0_becomeLike_1 : decode cX0_becomeLike 1 = .ok (.getfield 9, 3) := by decide +kernel
theorem dX0_becomeLike_4 : decode cX0_becomeLike 4 = .ok (.iconst 0, 1) := by decide +kernel
theorem dX0_becomeLike_5 : decode cX0_becomeLike 5 = .ok (.aload_n 0, 1) := by decide +kernel
theorem dX0_becomeLike_6 : decode cX0_becomeLike 6 = .ok (.getfield 9, 3) := by decide +kernel
theorem dX0_becomeLike_9 : decode cX0_becomeLike 9 = .ok (.iconst 0, 1) := by decide +kernel
theorem dX0_becomeLike_10 : decode cX0_becomeLike 10 = .ok (.bipush 9, 2) := by decide +kernel
theorem dX0_becomeLike_12 : decode cX0_becomeLike 12 = .ok (.invokestatic 25, 3) := by decide +kernel
theorem dX0_becomeLike_15 : decode cX0_becomeLike 15 = .ok (.aload_n 1, 1) := by decide +kernel
theorem dX0_becomeLike_16 : decode cX0_becomeLike 16 = .ok (.getfield 15, 3) := by decide +kernel
theorem dX0_becomeLike_19 : decode cX0_becomeLike 19 = .ok (.iconst 0, 1) := by decide +kernel
theorem dX0_becomeLike_20 : decode cX0_becomeLike 20 = .ok (.aload_n 0, 1) := by decide +kernel
theorem dX0_becomeLike_21 : decode cX0_becomeLike 21 = .ok (.getfield 15, 3) := by decide +kernel
theorem dX0_becomeLike_24 : decode cX0_becomeLike 24 = .ok (.iconst 0, 1) := by decide +kernel
theorem dX0_becomeLike_25 : decode cX0_becomeLike 25 = .ok (.bipush 9, 2) := by decide +kernel
theorem dX0_becomeLike_27 : decode cX0_becomeLike 27 = .ok (.invokestatic 25, 3) := by decide +kernel
theorem dX0_becomeLike_30 : decode cX0_becomeLike 30 = .ok (.aload_n 1, 1) := by decide +kernel
theorem dX0_becomeLike_31 : decode cX0_becomeLike 31 = .ok (.getfield 18, 3) := by decide +kernel
theorem dX0_becomeLike_34 : decode cX0_becomeLike 34 = .ok (.iconst 0, 1) := by decide +kernel
theorem dX0_becomeLike_35 : decode cX0_becomeLike 35 = .ok (.aload_n 0, 1) := by decide +kernel
theorem dX0_becomeLike_36 : decode cX0_becomeLike 36 = .ok (.getfield 18, 3) := by decide +kernel
theorem dX0_becomeLike_39 : decode cX0_becomeLike 39 = .ok (.iconst 0, 1) := by decide +kernel
theorem dX0_becomeLike_40 : decode cX0_becomeLike 40 = .ok (.bipush 9, 2) := by decide +kernel
theorem dX0_becomeLike_42 : decode cX0_becomeLike 42 = .ok (.invokestatic 25, 3) := by decide +kernel
theorem dX0_becomeLike_45 : decode cX0_becomeLike 45 = .ok (.aload_n 0, 1) := by decide +kernel
theorem dX0_becomeLike_46 : decode cX0_becomeLike 46 = .ok (.aload_n 1, 1) := by decide +kernel
theorem dX0_becomeLike_47 : decode cX0_becomeLike 47 = .ok (.getfield 31, 3) := by decide +kernel
theorem dX0_becomeLike_50 : decode cX0_becomeLike 50 = .ok (.putfield 31, 3) := by decide +kernel
theorem dX0_becomeLike_53 : decode cX0_becomeLike 53 = .ok (.aload_n 0, 1) := by decide +kernel
theorem dX0_becomeLike_54 : decode cX0_becomeLike 54 = .ok (.aload_n 1, 1) := by decide +kernel
theorem dX0_becomeLike_55 : decode cX0_becomeLike 55 = .ok (.getfield 21, 3) := by decide +kernel
theorem dX0_becomeLike_58 : decode cX0_becomeLike 58 = .ok (.putfield 21, 3) := by decide +kernel
theorem dX0_becomeLike_61 : decode cX0_becomeLike 61 = .ok (.aload_n 0, 1) := by decide +kernel
theorem dX0_becomeLike_62 : decode cX0_becomeLike 62 = .ok (.aload_n 1, 1) := by decide +kernel
theorem dX0_becomeLike_63 : decode cX0_becomeLike 63 = .ok (.getfield 34, 3) := by decide +kernel
theorem dX0_becomeLike_66 : decode cX0_becomeLike 66 = .ok (.putfield 34, 3) := by decide +kernel
theorem dX0_becomeLike_69 : decode cX0_becomeLike 69 = .ok (.return_, 1) := by decide +kernel
theorem dX0_note_0 : decode cX0_note 0 = .ok (.iconst 3, 1) := by decide +kernel
theorem dX0_note_1 : decode cX0_note 1 = .ok (.iload_n 1, 1) := by decide +kernel
theorem dX0_note_2 : decode cX0_note 2 = .ok (.iconst 1, 1) := by decide +kernel
theorem dX0_note_3 : decode cX0_note 3 = .ok (.iadd, 1) := by decide +kernel
theorem dX0_note_4 : decode cX0_note 4 = .ok (.imul, 1) := by decide +kernel
theorem dX0_note_5 : decode cX0_note 5 = .ok (.iload_n 2, 1) := by decide +kernel
theorem dX0_note_6 : decode cX0_note 6 = .ok (.iadd, 1) := by decide +kernel
theorem dX0_note_7 : decode cX0_note 7 = .ok (.iconst 1, 1) := by decide +kernel
theorem dX0_note_8 : decode cX0_note 8 = .ok (.iadd, 1) := by decide +kernel
theorem dX0_note_9 : decode cX0_note 9 = .ok (.istore_n 3, 1) := by decide +kernel
theorem dX0_note_10 : decode cX0_note 10 = .ok (.iload_n 3, 1) := by decide +kernel
theorem dX0_note_11 : decode cX0_note 11 = .ok (.ifCond .lt 9, 3) := by decide +kernel
theorem dX0_note_14 : decode cX0_note 14 = .ok (.iload_n 3, 1) := by decide +kernel
theorem dX0_note_15 : decode cX0_note 15 = .ok (.bipush 9, 2) := by decide +kernel
theorem dX0_note_17 : decode cX0_note 17 = .ok (.if_icmp .lt 4, 3) := by decide +kernel
theorem dX0_note_20 : decode cX0_note 20 = .ok (.return_, 1) := by decide +kernel
theorem dX0_note_21 : decode cX0_note 21 = .ok (.aload_n 0, 1) := by decide +kernel
theorem dX0_note_22 : decode cX0_note 22 = .ok (.getfield 15, 3) := by decide +kernel
theorem dX0_note_25 : decode cX0_note 25 = .ok (.iload_n 3, 1) := by decide +kernel
theorem dX0_note_26 : decode cX0_note 26 = .ok (.iaload, 1) := by decide +kernel
theorem dX0_note_27 : decode cX0_note 27 = .ok (.ifCond .ne 32, 3) := by decide +kernel
theorem dX0_note_30 : decode cX0_note 30 = .ok (.aload_n 0, 1) := by decide +kernel
theorem dX0_note_31 : decode cX0_note 31 = .ok (.getfield 31, 3) := by decide +kernel
theorem dX0_note_34 : decode cX0_note 34 = .ok (.bipush 9, 2) := by decide +kernel
theorem dX0_note_36 : decode cX0_note 36 = .ok (.if_icmp .ge 23, 3) := by decide +kernel
theorem dX0_note_39 : decode cX0_note 39 = .ok (.aload_n 0, 1) := by decide +kernel
theorem dX0_note_40 : decode cX0_note 40 = .ok (.getfield 9, 3) := by decide +kernel
theorem dX0_note_43 : decode cX0_note 43 = .ok (.aload_n 0, 1) := by decide +kernel
theorem dX0_note_44 : decode cX0_note 44 = .ok (.getfield 31, 3) := by decide +kernel
theorem dX0_note_47 : decode cX0_note 47 = .ok (.iload_n 3, 1) := by decide +kernel
theorem dX0_note_48 : decode cX0_note 48 = .ok (.iastore, 1) := by decide +kernel
theorem dX0_note_49 : decode cX0_note 49 = .ok (.aload_n 0, 1) := by decide +kernel
theorem dX0_note_50 : decode cX0_note 50 = .ok (.dup, 1) := by decide +kernel
theorem dX0_note_51 : decode cX0_note 51 = .ok (.getfield 31, 3) := by decide +kernel
theorem dX0_note_54 : decode cX0_note 54 = .ok (.iconst 1, 1) := by decide +kernel
theorem dX0_note_55 : decode cX0_note 55 = .ok (.iadd, 1) := by decide +kernel
theorem dX0_note_56 : decode cX0_note 56 = .ok (.putfield 31, 3) := by decide +kernel
theorem dX0_note_59 : decode cX0_note 59 = .ok (.aload_n 0, 1) := by decide +kernel
theorem dX0_note_60 : decode cX0_note 60 = .ok (.iload_n 3, 1) := by decide +kernel
theorem dX0_note_61 : decode cX0_note 61 = .ok (.aload_n 0, 1) := by decide +kernel
theorem dX0_note_62 : decode cX0_note 62 = .ok (.getfield 21, 3) := by decide +kernel
theorem dX0_note_65 : decode cX0_note 65 = .ok (.if_icmp .ne 12, 3) := by decide +kernel
theorem dX0_note_68 : decode cX0_note 68 = .ok (.aload_n 0, 1) := by decide +kernel
theorem dX0_note_69 : decode cX0_note 69 = .ok (.getfield 34, 3) := by decide +kernel
theorem dX0_note_72 : decode cX0_note 72 = .ok (.iconst 1, 1) := by decide +kernel
theorem dX0_note_73 : decode cX0_note 73 = .ok (.iadd, 1) := by decide +kernel
theorem dX0_note_74 : decode cX0_note 74 = .ok (.goto 4, 3) := by decide +kernel
theorem dX0_note_77 : decode cX0_note 77 = .ok (.iconst 1, 1) := by decide +kernel
theorem dX0_note_78 : decode cX0_note 78 = .ok (.putfield 34, 3) := by decide +kernel
theorem dX0_note_81 : decode cX0_note 81 = .ok (.aload_n 0, 1) := by decide +kernel
theorem dX0_note_82 : decode cX0_note 82 = .ok (.iload_n 3, 1) := by decide +kernel
theorem dX0_note_83 : decode cX0_note 83 = .ok (.putfield 21, 3) := by decide +kernel
theorem dX0_note_86 : decode cX0_note 86 = .ok (.aload_n 0, 1) := by decide +kernel
theorem dX0_note_87 : decode cX0_note 87 = .ok (.getfield 15, 3) := by decide +kernel
theorem dX0_note_90 : decode cX0_note 90 = .ok (.iload_n 3, 1) := by decide +kernel
theorem dX0_note_91 : decode cX0_note 91 = .ok (.dup2, 1) := by decide +kernel
theorem dX0_note_92 : decode cX0_note 92 = .ok (.iaload, 1) := by decide +kernel
theorem dX0_note_93 : decode cX0_note 93 = .ok (.iconst 1, 1) := by decide +kernel
theorem dX0_note_94 : decode cX0_note 94 = .ok (.iadd, 1) := by decide +kernel
theorem dX0_note_95 : decode cX0_note 95 = .ok (.iastore, 1) := by decide +kernel
theorem dX0_note_96 : decode cX0_note 96 = .ok (.aload_n 0, 1) := by decide +kernel
theorem dX0_note_97 : decode cX0_note 97 = .ok (.getfield 18, 3) := by decide +kernel
theorem dX0_note_100 : decode cX0_note 100 = .ok (.iload_n 3, 1) := by decide +kernel
theorem dX0_note_101 : decode cX0_note 101 = .ok (.aload_n 0, 1) := by decide +kernel
theorem dX0_note_102 : decode cX0_note 102 = .ok (.getfield 18, 3) := by decide +kernel
theorem dX0_note_105 : decode cX0_note 105 = .ok (.iload_n 3, 1) := by decide +kernel
theorem dX0_note_106 : decode cX0_note 106 = .ok (.iaload, 1) := by decide +kernel
theorem dX0_note_107 : decode cX0_note 107 = .ok (.aload_n 0, 1) := by decide +kernel
theorem dX0_note_108 : decode cX0_note 108 = .ok (.getfield 34, 3) := by decide +kernel
theorem dX0_note_111 : decode cX0_note 111 = .ok (.invokestatic 37, 3) := by decide +kernel
theorem dX0_note_114 : decode cX0_note 114 = .ok (.iastore, 1) := by decide +kernel
theorem dX0_note_115 : decode cX0_note 115 = .ok (.return_, 1) := by decide +kernel
theorem dX0_about_0 : decode cX0_about 0 = .ok (.iload_n 1, 1) := by decide +kernel
theorem dX0_about_1 : decode cX0_about 1 = .ok (.ifCond .lt 17, 3) := by decide +kernel
theorem dX0_about_4 : decode cX0_about 4 = .ok (.iload_n 1, 1) := by decide +kernel
theorem dX0_about_5 : decode cX0_about 5 = .ok (.aload_n 0, 1) := by decide +kernel
theorem dX0_about_6 : decode cX0_about 6 = .ok (.getfield 31, 3) := by decide +kernel
theorem dX0_about_9 : decode cX0_about 9 = .ok (.if_icmp .ge 9, 3) := by decide +kernel
theorem dX0_about_12 : decode cX0_about 12 = .ok (.iload_n 1, 1) := by decide +kernel
theorem dX0_about_13 : decode cX0_about 13 = .ok (.bipush 9, 2) := by decide +kernel
theorem dX0_about_15 : decode cX0_about 15 = .ok (.if_icmp .lt 5, 3) := by decide +kernel
theorem dX0_about_18 : decode cX0_about 18 = .ok (.iconst (-1), 1) := by decide +kernel
theorem dX0_about_19 : decode cX0_about 19 = .ok (.ireturn, 1) := by decide +kernel
theorem dX0_about_20 : decode cX0_about 20 = .ok (.aload_n 0, 1) := by decide +kernel
theorem dX0_about_21 : decode cX0_about 21 = .ok (.getfield 9, 3) := by decide +kernel
theorem dX0_about_24 : decode cX0_about 24 = .ok (.iload_n 1, 1) := by decide +kernel
theorem dX0_about_25 : decode cX0_about 25 = .ok (.iaload, 1) := by decide +kernel
theorem dX0_about_26 : decode cX0_about 26 = .ok (.istore_n 3, 1) := by decide +kernel
theorem dX0_about_27 : decode cX0_about 27 = .ok (.iload_n 3, 1) := by decide +kernel
theorem dX0_about_28 : decode cX0_about 28 = .ok (.ifCond .lt 9, 3) := by decide +kernel
theorem dX0_about_31 : decode cX0_about 31 = .ok (.iload_n 3, 1) := by decide +kernel
theorem dX0_about_32 : decode cX0_about 32 = .ok (.bipush 9, 2) := by decide +kernel
theorem dX0_about_34 : decode cX0_about 34 = .ok (.if_icmp .lt 5, 3) := by decide +kernel
theorem dX0_about_37 : decode cX0_about 37 = .ok (.iconst (-1), 1) := by decide +kernel
theorem dX0_about_38 : decode cX0_about 38 = .ok (.ireturn, 1) := by decide +kernel
theorem dX0_about_39 : decode cX0_about 39 = .ok (.iload_n 2, 1) := by decide +kernel
theorem dX0_about_40 : decode cX0_about 40 = .ok (.tableswitch 54 0 3 #[32, 36, 40, 47], 32) := by decide +kernel
theorem dX0_about_72 : decode cX0_about 72 = .ok (.iload_n 3, 1) := by decide +kernel
theorem dX0_about_73 : decode cX0_about 73 = .ok (.iconst 3, 1) := by decide +kernel
theorem dX0_about_74 : decode cX0_about 74 = .ok (.idiv, 1) := by decide +kernel
theorem dX0_about_75 : decode cX0_about 75 = .ok (.ireturn, 1) := by decide +kernel
theorem dX0_about_76 : decode cX0_about 76 = .ok (.iload_n 3, 1) := by decide +kernel
theorem dX0_about_77 : decode cX0_about 77 = .ok (.iconst 3, 1) := by decide +kernel
theorem dX0_about_78 : decode cX0_about 78 = .ok (.irem, 1) := by decide +kernel
theorem dX0_about_79 : decode cX0_about 79 = .ok (.ireturn, 1) := by decide +kernel
theorem dX0_about_80 : decode cX0_about 80 = .ok (.aload_n 0, 1) := by decide +kernel
theorem dX0_about_81 : decode cX0_about 81 = .ok (.getfield 15, 3) := by decide +kernel
theorem dX0_about_84 : decode cX0_about 84 = .ok (.iload_n 3, 1) := by decide +kernel
theorem dX0_about_85 : decode cX0_about 85 = .ok (.iaload, 1) := by decide +kernel
theorem dX0_about_86 : decode cX0_about 86 = .ok (.ireturn, 1) := by decide +kernel
theorem dX0_about_87 : decode cX0_about 87 = .ok (.aload_n 0, 1) := by decide +kernel
theorem dX0_about_88 : decode cX0_about 88 = .ok (.getfield 18, 3) := by decide +kernel
theorem dX0_about_91 : decode cX0_about 91 = .ok (.iload_n 3, 1) := by decide +kernel
theorem dX0_about_92 : decode cX0_about 92 = .ok (.iaload, 1) := by decide +kernel
theorem dX0_about_93 : decode cX0_about 93 = .ok (.ireturn, 1) := by decide +kernel
theorem dX0_about_94 : decode cX0_about 94 = .ok (.bipush (-2), 2) := by decide +kernel
theorem dX0_about_96 : decode cX0_about 96 = .ok (.ireturn, 1) := by decide +kernel
theorem dX1_init_0 : decode cX1_init 0 = .ok (.aload_n 0, 1) := by decide +kernel
theorem dX1_init_1 : decode cX1_init 1 = .ok (.invokespecial 3, 3) := by decide +kernel
theorem dX1_init_4 : decode cX1_init 4 = .ok (.aload_n 0, 1) := by decide +kernel
theorem dX1_init_5 : decode cX1_init 5 = .ok (.bipush 6, 2) := by decide +kernel
theorem dX1_init_7 : decode cX1_init 7 = .ok (.anewarray 9, 3) := by decide +kernel
theorem dX1_init_10 : decode cX1_init 10 = .ok (.putfield 11, 3) := by decide +kernel
theorem dX1_init_13 : decode cX1_init 13 = .ok (.return_, 1) := by decide +kernel
theorem dX1_placeOf_0 : decode cX1_placeOf 0 = .ok (.aload_n 0, 1) := by decide +kernel
theorem dX1_placeOf_1 : decode cX1_placeOf 1 = .ok (.getfield 17, 3) := by decide +kernel
theorem dX1_placeOf_4 : decode cX1_placeOf 4 = .ok (.iload_n 1, 1) := by decide +kernel
theorem dX1_placeOf_5 : decode cX1_placeOf 5 = .ok (.iadd, 1) := by decide +kernel
theorem dX1_placeOf_6 : decode cX1_placeOf 6 = .ok (.bipush 6, 2) := by decide +kernel
theorem dX1_placeOf_8 : decode cX1_placeOf 8 = .ok (.invokestatic 21, 3) := by decide +kernel
theorem dX1_placeOf_11 : decode cX1_placeOf 11 = .ok (.ireturn, 1) := by decide +kernel
theorem dX1_keep_0 : decode cX1_keep 0 = .ok (.aload_n 0, 1) := by decide +kernel
theorem dX1_keep_1 : decode cX1_keep 1 = .ok (.aload_n 0, 1) := by decide +kernel
theorem dX1_keep_2 : decode cX1_keep 2 = .ok (.getfield 27, 3) := by decide +kernel
theorem dX1_keep_5 : decode cX1_keep 5 = .ok (.invokevirtual 30, 3) := by decide +kernel
theorem dX1_keep_8 : decode cX1_keep 8 = .ok (.istore_n 2, 1) := by decide +kernel
theorem dX1_keep_9 : decode cX1_keep 9 = .ok (.iload_n 2, 1) := by decide +kernel
theorem dX1_keep_10 : decode cX1_keep 10 = .ok (.ifCond .lt 12, 3) := by decide +kernel
theorem dX1_keep_13 : decode cX1_keep 13 = .ok (.iload_n 2, 1) := by decide +kernel
theorem dX1_keep_14 : decode cX1_keep 14 = .ok (.aload_n 0, 1) := by decide +kernel
theorem dX1_keep_15 : decode cX1_keep 15 = .ok (.getfield 11, 3) := by decide +kernel
theorem dX1_keep_18 : decode cX1_keep 18 = .ok (.arraylength, 1) := by decide +kernel
theorem dX1_keep_19 : decode cX1_keep 19 = .ok (.if_icmp .lt 4, 3) := by decide +kernel
theorem dX1_keep_22 : decode cX1_keep 22 = .ok (.return_, 1) := by decide +kernel
theorem dX1_keep_23 : decode cX1_keep 23 = .ok (.aload_n 0, 1) := by decide +kernel
theorem dX1_keep_24 : decode cX1_keep 24 = .ok (.getfield 11, 3) := by decide +kernel
theorem dX1_keep_27 : decode cX1_keep 27 = .ok (.iload_n 2, 1) := by decide +kernel
theorem dX1_keep_28 : decode cX1_keep 28 = .ok (.aaload, 1) := by decide +kernel
theorem dX1_keep_29 : decode cX1_keep 29 = .ok (.astore_n 3, 1) := by decide +kernel
theorem dX1_keep_30 : decode cX1_keep 30 = .ok (.aload_n 3, 1) := by decide +kernel
theorem dX1_keep_31 : decode cX1_keep 31 = .ok (.ifnonnull 18, 3) := by decide +kernel
theorem dX1_keep_34 : decode cX1_keep 34 = .ok (.new 9, 3) := by decide +kernel
theorem dX1_keep_37 : decode cX1_keep 37 = .ok (.dup, 1) := by decide +kernel
theorem dX1_keep_38 : decode cX1_keep 38 = .ok (.invokespecial 34, 3) := by decide +kernel
theorem dX1_keep_41 : decode cX1_keep 41 = .ok (.astore_n 3, 1) := by decide +kernel
theorem dX1_keep_42 : decode cX1_keep 42 = .ok (.aload_n 0, 1) := by decide +kernel
theorem dX1_keep_43 : decode cX1_keep 43 = .ok (.getfield 11, 3) := by decide +kernel
theorem dX1_keep_46 : decode cX1_keep 46 = .ok (.iload_n 2, 1) := by decide +kernel
theorem dX1_keep_47 : decode cX1_keep 47 = .ok (.aload_n 3, 1) := by decide +kernel
theorem dX1_keep_48 : decode cX1_keep 48 = .ok (.aastore, 1) := by decide +kernel
theorem dX1_keep_49 : decode cX1_keep 49 = .ok (.aload_n 3, 1) := by decide +kernel
theorem dX1_keep_50 : decode cX1_keep 50 = .ok (.aload_n 1, 1) := by decide +kernel
theorem dX1_keep_51 : decode cX1_keep 51 = .ok (.invokevirtual 35, 3) := by decide +kernel
theorem dX1_keep_54 : decode cX1_keep 54 = .ok (.aload_n 0, 1) := by decide +kernel
theorem dX1_keep_55 : decode cX1_keep 55 = .ok (.getfield 27, 3) := by decide +kernel
theorem dX1_keep_58 : decode cX1_keep 58 = .ok (.bipush 6, 2) := by decide +kernel
theorem dX1_keep_60 : decode cX1_keep 60 = .ok (.if_icmp .ge 16, 3) := by decide +kernel
theorem dX1_keep_63 : decode cX1_keep 63 = .ok (.aload_n 0, 1) := by decide +kernel
theorem dX1_keep_64 : decode cX1_keep 64 = .ok (.dup, 1) := by decide +kernel
theorem dX1_keep_65 : decode cX1_keep 65 = .ok (.getfield 27, 3) := by decide +kernel
theorem dX1_keep_68 : decode cX1_keep 68 = .ok (.iconst 1, 1) := by decide +kernel
theorem dX1_keep_69 : decode cX1_keep 69 = .ok (.iadd, 1) := by decide +kernel
theorem dX1_keep_70 : decode cX1_keep 70 = .ok (.putfield 27, 3) := by decide +kernel
theorem dX1_keep_73 : decode cX1_keep 73 = .ok (.goto 12, 3) := by decide +kernel
theorem dX1_keep_76 : decode cX1_keep 76 = .ok (.aload_n 0, 1) := by decide +kernel
theorem dX1_keep_77 : decode cX1_keep 77 = .ok (.aload_n 0, 1) := by decide +kernel
theorem dX1_keep_78 : decode cX1_keep 78 = .ok (.iconst 1, 1) := by decide +kernel
theorem dX1_keep_79 : decode cX1_keep 79 = .ok (.invokevirtual 30, 3) := by decide +kernel
theorem dX1_keep_82 : decode cX1_keep 82 = .ok (.putfield 17, 3) := by decide +kernel
theorem dX1_keep_85 : decode cX1_keep 85 = .ok (.return_, 1) := by decide +kernel
theorem dX1_takeBack_0 : decode cX1_takeBack 0 = .ok (.aload_n 0, 1) := by decide +kernel
theorem dX1_takeBack_1 : decode cX1_takeBack 1 = .ok (.aload_n 0, 1) := by decide +kernel
theorem dX1_takeBack_2 : decode cX1_takeBack 2 = .ok (.getfield 27, 3) := by decide +kernel
theorem dX1_takeBack_5 : decode cX1_takeBack 5 = .ok (.iconst 1, 1) := by decide +kernel
theorem dX1_takeBack_6 : decode cX1_takeBack 6 = .ok (.isub, 1) := by decide +kernel
theorem dX1_takeBack_7 : decode cX1_takeBack 7 = .ok (.invokevirtual 30, 3) := by decide +kernel
theorem dX1_takeBack_10 : decode cX1_takeBack 10 = .ok (.istore_n 2, 1) := by decide +kernel
theorem dX1_takeBack_11 : decode cX1_takeBack 11 = .ok (.aload_n 0, 1) := by decide +kernel
theorem dX1_takeBack_12 : decode cX1_takeBack 12 = .ok (.getfield 27, 3) := by decide +kernel
theorem dX1_takeBack_15 : decode cX1_takeBack 15 = .ok (.ifCond .eq 16, 3) := by decide +kernel
theorem dX1_takeBack_18 : decode cX1_takeBack 18 = .ok (.iload_n 2, 1) := by decide +kernel
theorem dX1_takeBack_19 : decode cX1_takeBack 19 = .ok (.ifCond .lt 12, 3) := by decide +kernel
theorem dX1_takeBack_22 : decode cX1_takeBack 22 = .ok (.iload_n 2, 1) := by decide +kernel
theorem dX1_takeBack_23 : decode cX1_takeBack 23 = .ok (.aload_n 0, 1) := by decide +kernel
theorem dX1_takeBack_24 : decode cX1_takeBack 24 = .ok (.getfield 11, 3) := by decide +kernel
theorem dX1_takeBack_27 : decode cX1_takeBack 27 = .ok (.arraylength, 1) := by decide +kernel
theorem dX1_takeBack_28 : decode cX1_takeBack 28 = .ok (.if_icmp .lt 6, 3) := by decide +kernel
theorem dX1_takeBack_31 : decode cX1_takeBack 31 = .ok (.bipush (-5), 2) := by decide +kernel
theorem dX1_takeBack_33 : decode cX1_takeBack 33 = .ok (.ireturn, 1) := by decide +kernel
theorem dX1_takeBack_34 : decode cX1_takeBack 34 = .ok (.aload_n 0, 1) := by decide +kernel
theorem dX1_takeBack_35 : decode cX1_takeBack 35 = .ok (.getfield 11, 3) := by decide +kernel
theorem dX1_takeBack_38 : decode cX1_takeBack 38 = .ok (.iload_n 2, 1) := by decide +kernel
theorem dX1_takeBack_39 : decode cX1_takeBack 39 = .ok (.aaload, 1) := by decide +kernel
theorem dX1_takeBack_40 : decode cX1_takeBack 40 = .ok (.astore_n 3, 1) := by decide +kernel
theorem dX1_takeBack_41 : decode cX1_takeBack 41 = .ok (.aload_n 3, 1) := by decide +kernel
theorem dX1_takeBack_42 : decode cX1_takeBack 42 = .ok (.ifnonnull 6, 3) := by decide +kernel
theorem dX1_takeBack_45 : decode cX1_takeBack 45 = .ok (.bipush (-5), 2) := by decide +kernel
theorem dX1_takeBack_47 : decode cX1_takeBack 47 = .ok (.ireturn, 1) := by decide +kernel
theorem dX1_takeBack_48 : decode cX1_takeBack 48 = .ok (.aload_n 1, 1) := by decide +kernel
theorem dX1_takeBack_49 : decode cX1_takeBack 49 = .ok (.aload_n 3, 1) := by decide +kernel
theorem dX1_takeBack_50 : decode cX1_takeBack 50 = .ok (.invokevirtual 35, 3) := by decide +kernel
theorem dX1_takeBack_53 : decode cX1_takeBack 53 = .ok (.aload_n 0, 1) := by decide +kernel
theorem dX1_takeBack_54 : decode cX1_takeBack 54 = .ok (.dup, 1) := by decide +kernel
theorem dX1_takeBack_55 : decode cX1_takeBack 55 = .ok (.getfield 27, 3) := by decide +kernel
theorem dX1_takeBack_58 : decode cX1_takeBack 58 = .ok (.iconst 1, 1) := by decide +kernel
theorem dX1_takeBack_59 : decode cX1_takeBack 59 = .ok (.isub, 1) := by decide +kernel
theorem dX1_takeBack_60 : decode cX1_takeBack 60 = .ok (.putfield 27, 3) := by decide +kernel
theorem dX1_takeBack_63 : decode cX1_takeBack 63 = .ok (.aload_n 0, 1) := by decide +kernel
theorem dX1_takeBack_64 : decode cX1_takeBack 64 = .ok (.getfield 27, 3) := by decide +kernel
theorem dX1_takeBack_67 : decode cX1_takeBack 67 = .ok (.ireturn, 1) := by decide +kernel
theorem dX2_init_0 : decode cX2_init 0 = .ok (.aload_n 0, 1) := by decide +kernel
theorem dX2_init_1 : decode cX2_init 1 = .ok (.invokespecial 3, 3) := by decide +kernel
theorem dX2_init_4 : decode cX2_init 4 = .ok (.aload_n 0, 1) := by decide +kernel
theorem dX2_init_5 : decode cX2_init 5 = .ok (.bipush 80, 2) := by decide +kernel
theorem dX2_init_7 : decode cX2_init 7 = .ok (.newarray .char, 2) := by decide +kernel
theorem dX2_init_9 : decode cX2_init 9 = .ok (.putfield 9, 3) := by decide +kernel
theorem dX2_init_12 : decode cX2_init 12 = .ok (.return_, 1) := by decide +kernel
theorem dX3_init_0 : decode cX3_init 0 = .ok (.aload_n 0, 1) := by decide +kernel
theorem dX3_init_1 : decode cX3_init 1 = .ok (.invokespecial 3, 3) := by decide +kernel
theorem dX3_init_4 : decode cX3_init 4 = .ok (.aload_n 0, 1) := by decide +kernel
theorem dX3_init_5 : decode cX3_init 5 = .ok (.getstatic 9, 3) := by decide +kernel
theorem dX3_init_8 : decode cX3_init 8 = .ok (.invokevirtual 13, 3) := by decide +kernel
theorem dX3_init_11 : decode cX3_init 11 = .ok (.checkcast 14, 3) := by decide +kernel
theorem dX3_init_14 : decode cX3_init 14 = .ok (.putfield 18, 3) := by decide +kernel
theorem dX3_init_17 : decode cX3_init 17 = .ok (.aload_n 0, 1) := by decide +kernel
theorem dX3_init_18 : decode cX3_init 18 = .ok (.new 23, 3) := by decide +kernel
theorem dX3_init_21 : decode cX3_init 21 = .ok (.dup, 1) := by decide +kernel
theorem dX3_init_22 : decode cX3_init 22 = .ok (.invokespecial 25, 3) := by decide +kernel
theorem dX3_init_25 : decode cX3_init 25 = .ok (.putfield 26, 3) := by decide +kernel
theorem dX3_init_28 : decode cX3_init 28 = .ok (.aload_n 0, 1) := by decide +kernel
theorem dX3_init_29 : decode cX3_init 29 = .ok (.sipush 2048, 3) := by decide +kernel
theorem dX3_init_32 : decode cX3_init 32 = .ok (.putfield 30, 3) := by decide +kernel
theorem dX3_init_35 : decode cX3_init 35 = .ok (.aload_n 0, 1) := by decide +kernel
theorem dX3_init_36 : decode cX3_init 36 = .ok (.sipush 2048, 3) := by decide +kernel
theorem dX3_init_39 : decode cX3_init 39 = .ok (.putfield 34, 3) := by decide +kernel
theorem dX3_init_42 : decode cX3_init 42 = .ok (.aload_n 0, 1) := by decide +kernel
theorem dX3_init_43 : decode cX3_init 43 = .ok (.aload_n 0, 1) := by decide +kernel
theorem dX3_init_44 : decode cX3_init 44 = .ok (.getfield 18, 3) := by decide +kernel
theorem dX3_init_47 : decode cX3_init 47 = .ok (.iconst 1, 1) := by decide +kernel
theorem dX3_init_48 : decode cX3_init 48 = .ok (.iaload, 1) := by decide +kernel
theorem dX3_init_49 : decode cX3_init 49 = .ok (.putfield 37, 3) := by decide +kernel
theorem dX3_init_52 : decode cX3_init 52 = .ok (.return_, 1) := by decide +kernel
theorem dX3_becomeLike_0 : decode cX3_becomeLike 0 = .ok (.aload_n 1, 1) := by decide +kernel
theorem dX3_becomeLike_1 : decode cX3_becomeLike 1 = .ok (.getfield 18, 3) := by decide +kernel
theorem dX3_becomeLike_4 : decode cX3_becomeLike 4 = .ok (.iconst 0, 1) := by decide +kernel
theorem dX3_becomeLike_5 : decode cX3_becomeLike 5 = .ok (.aload_n 0, 1) := by decide +kernel
theorem dX3_becomeLike_6 : decode cX3_becomeLike 6 = .ok (.getfield 18, 3) := by decide +kernel
theorem dX3_becomeLike_9 : decode cX3_becomeLike 9 = .ok (.iconst 0, 1) := by decide +kernel
theorem dX3_becomeLike_10 : decode cX3_becomeLike 10 = .ok (.bipush 7, 2) := by decide +kernel
theorem dX3_becomeLike_12 : decode cX3_becomeLike 12 = .ok (.invokestatic 40, 3) := by decide +kernel
theorem dX3_becomeLike_15 : decode cX3_becomeLike 15 = .ok (.aload_n 0, 1) := by decide +kernel
theorem dX3_becomeLike_16 : decode cX3_becomeLike 16 = .ok (.getfield 26, 3) := by decide +kernel
theorem dX3_becomeLike_19 : decode cX3_becomeLike 19 = .ok (.aload_n 1, 1) := by decide +kernel
theorem dX3_becomeLike_20 : decode cX3_becomeLike 20 = .ok (.getfield 26, 3) := by decide +kernel
theorem dX3_becomeLike_23 : decode cX3_becomeLike 23 = .ok (.invokevirtual 46, 3) := by decide +kernel
theorem dX3_becomeLike_26 : decode cX3_becomeLike 26 = .ok (.aload_n 0, 1) := by decide +kernel
theorem dX3_becomeLike_27 : decode cX3_becomeLike 27 = .ok (.aload_n 1, 1) := by decide +kernel
theorem dX3_becomeLike_28 : decode cX3_becomeLike 28 = .ok (.getfield 30, 3) := by decide +kernel
theorem dX3_becomeLike_31 : decode cX3_becomeLike 31 = .ok (.putfield 30, 3) := by decide +kernel
theorem dX3_becomeLike_34 : decode cX3_becomeLike 34 = .ok (.aload_n 0, 1) := by decide +kernel
theorem dX3_becomeLike_35 : decode cX3_becomeLike 35 = .ok (.aload_n 1, 1) := by decide +kernel
theorem dX3_becomeLike_36 : decode cX3_becomeLike 36 = .ok (.getfield 34, 3) := by decide +kernel
theorem dX3_becomeLike_39 : decode cX3_becomeLike 39 = .ok (.putfield 34, 3) := by decide +kernel
theorem dX3_becomeLike_42 : decode cX3_becomeLike 42 = .ok (.aload_n 0, 1) := by decide +kernel
theorem dX3_becomeLike_43 : decode cX3_becomeLike 43 = .ok (.aload_n 1, 1) := by decide +kernel
theorem dX3_becomeLike_44 : decode cX3_becomeLike 44 = .ok (.getfield 37, 3) := by decide +kernel
theorem dX3_becomeLike_47 : decode cX3_becomeLike 47 = .ok (.putfield 37, 3) := by decide +kernel
theorem dX3_becomeLike_50 : decode cX3_becomeLike 50 = .ok (.aload_n 0, 1) := by decide +kernel
theorem dX3_becomeLike_51 : decode cX3_becomeLike 51 = .ok (.aload_n 1, 1) := by decide +kernel
theorem dX3_becomeLike_52 : decode cX3_becomeLike 52 = .ok (.getfield 50, 3) := by decide +kernel
theorem dX3_becomeLike_55 : decode cX3_becomeLike 55 = .ok (.putfield 50, 3) := by decide +kernel
theorem dX3_becomeLike_58 : decode cX3_becomeLike 58 = .ok (.aload_n 0, 1) := by decide +kernel
theorem dX3_becomeLike_59 : decode cX3_becomeLike 59 = .ok (.aload_n 1, 1) := by decide +kernel
theorem dX3_becomeLike_60 : decode cX3_becomeLike 60 = .ok (.getfield 53, 3) := by decide +kernel
theorem dX3_becomeLike_63 : decode cX3_becomeLike 63 = .ok (.putfield 53, 3) := by decide +kernel
theorem dX3_becomeLike_66 : decode cX3_becomeLike 66 = .ok (.aload_n 0, 1) := by decide +kernel
theorem dX3_becomeLike_67 : decode cX3_becomeLike 67 = .ok (.aload_n 1, 1) := by decide +kernel
theorem dX3_becomeLike_68 : decode cX3_becomeLike 68 = .ok (.getfield 56, 3) := by decide +kernel
theorem dX3_becomeLike_71 : decode cX3_becomeLike 71 = .ok (.putfield 56, 3) := by decide +kernel
theorem dX3_becomeLike_74 : decode cX3_becomeLike 74 = .ok (.aload_n 0, 1) := by decide +kernel
theorem dX3_becomeLike_75 : decode cX3_becomeLike 75 = .ok (.aload_n 1, 1) := by decide +kernel
theorem dX3_becomeLike_76 : decode cX3_becomeLike 76 = .ok (.getfield 59, 3) := by decide +kernel
theorem dX3_becomeLike_79 : decode cX3_becomeLike 79 = .ok (.putfield 59, 3) := by decide +kernel
theorem dX3_becomeLike_82 : decode cX3_becomeLike 82 = .ok (.aload_n 0, 1) := by decide +kernel
theorem dX3_becomeLike_83 : decode cX3_becomeLike 83 = .ok (.aload_n 1, 1) := by decide +kernel
theorem dX3_becomeLike_84 : decode cX3_becomeLike 84 = .ok (.getfield 62, 3) := by decide +kernel
theorem dX3_becomeLike_87 : decode cX3_becomeLike 87 = .ok (.putfield 62, 3) := by decide +kernel
theorem dX3_becomeLike_90 : decode cX3_becomeLike 90 = .ok (.aload_n 0, 1) := by decide +kernel
theorem dX3_becomeLike_91 : decode cX3_becomeLike 91 = .ok (.aload_n 1, 1) := by decide +kernel
theorem dX3_becomeLike_92 : decode cX3_becomeLike 92 = .ok (.getfield 65, 3) := by decide +kernel
theorem dX3_becomeLike_95 : decode cX3_becomeLike 95 = .ok (.putfield 65, 3) := by decide +kernel
theorem dX3_becomeLike_98 : decode cX3_becomeLike 98 = .ok (.aload_n 0, 1) := by decide +kernel
theorem dX3_becomeLike_99 : decode cX3_becomeLike 99 = .ok (.aload_n 1, 1) := by decide +kernel
theorem dX3_becomeLike_100 : decode cX3_becomeLike 100 = .ok (.getfield 68, 3) := by decide +kernel
theorem dX3_becomeLike_103 : decode cX3_becomeLike 103 = .ok (.putfield 68, 3) := by decide +kernel
theorem dX3_becomeLike_106 : decode cX3_becomeLike 106 = .ok (.aload_n 0, 1) := by decide +kernel
theorem dX3_becomeLike_107 : decode cX3_becomeLike 107 = .ok (.aload_n 1, 1) := by decide +kernel
theorem dX3_becomeLike_108 : decode cX3_becomeLike 108 = .ok (.getfield 71, 3) := by decide +kernel
theorem dX3_becomeLike_111 : decode cX3_becomeLike 111 = .ok (.putfield 71, 3) := by decide +kernel
theorem dX3_becomeLike_114 : decode cX3_becomeLike 114 = .ok (.aload_n 0, 1) := by decide +kernel
theorem dX3_becomeLike_115 : decode cX3_becomeLike 115 = .ok (.aload_n 1, 1) := by decide +kernel
theorem dX3_becomeLike_116 : decode cX3_becomeLike 116 = .ok (.getfield 74, 3) := by decide +kernel
theorem dX3_becomeLike_119 : decode cX3_becomeLike 119 = .ok (.putfield 74, 3) := by decide +kernel
theorem dX3_becomeLike_122 : decode cX3_becomeLike 122 = .ok (.aload_n 0, 1) := by decide +kernel
theorem dX3_becomeLike_123 : decode cX3_becomeLike 123 = .ok (.aload_n 1, 1) := by decide +kernel
theorem dX3_becomeLike_124 : decode cX3_becomeLike 124 = .ok (.getfield 77, 3) := by decide +kernel
theorem dX3_becomeLike_127 : decode cX3_becomeLike 127 = .ok (.putfield 77, 3) := by decide +kernel
theorem dX3_becomeLike_130 : decode cX3_becomeLike 130 = .ok (.aload_n 0, 1) := by decide +kernel
theorem dX3_becomeLike_131 : decode cX3_becomeLike 131 = .ok (.aload_n 1, 1) := by decide +kernel
theorem dX3_becomeLike_132 : decode cX3_becomeLike 132 = .ok (.getfield 80, 3) := by decide +kernel
theorem dX3_becomeLike_135 : decode cX3_becomeLike 135 = .ok (.putfield 80, 3) := by decide +kernel
theorem dX3_becomeLike_138 : decode cX3_becomeLike 138 = .ok (.aload_n 0, 1) := by decide +kernel
theorem dX3_becomeLike_139 : decode cX3_becomeLike 139 = .ok (.aload_n 1, 1) := by decide +kernel
theorem dX3_becomeLike_140 : decode cX3_becomeLike 140 = .ok (.getfield 83, 3) := by decide +kernel
theorem dX3_becomeLike_143 : decode cX3_becomeLike 143 = .ok (.putfield 83, 3) := by decide +kernel
theorem dX3_becomeLike_146 : decode cX3_becomeLike 146 = .ok (.return_, 1) := by decide +kernel
theorem dX3_changeSetting_0 : decode cX3_changeSetting 0 = .ok (.iload_n 1, 1) := by decide +kernel
theorem dX3_changeSetting_1 : decode cX3_changeSetting 1 = .ok (.ifCond .lt 9, 3) := by decide +kernel
theorem dX3_changeSetting_4 : decode cX3_changeSetting 4 = .ok (.iload_n 1, 1) := by decide +kernel
theorem dX3_changeSetting_5 : decode cX3_changeSetting 5 = .ok (.bipush 7, 2) := by decide +kernel
theorem dX3_changeSetting_7 : decode cX3_changeSetting 7 = .ok (.if_icmp .lt 6, 3) := by decide +kernel
theorem dX3_changeSetting_10 : decode cX3_changeSetting 10 = .ok (.bipush (-2), 2) := by decide +kernel
theorem dX3_changeSetting_12 : decode cX3_changeSetting 12 = .ok (.ireturn, 1) := by decide +kernel
theorem dX3_changeSetting_13 : decode cX3_changeSetting 13 = .ok (.aload_n 0, 1) := by decide +kernel
theorem dX3_changeSetting_14 : decode cX3_changeSetting 14 = .ok (.getfield 18, 3) := by decide +kernel
theorem dX3_changeSetting_17 : decode cX3_changeSetting 17 = .ok (.iload_n 1, 1) := by decide +kernel
theorem dX3_changeSetting_18 : decode cX3_changeSetting 18 = .ok (.iaload, 1) := by decide +kernel
theorem dX3_changeSetting_19 : decode cX3_changeSetting 19 = .ok (.istore_n 3, 1) := by decide +kernel
theorem dX3_changeSetting_20 : decode cX3_changeSetting 20 = .ok (.aload_n 0, 1) := by decide +kernel
theorem dX3_changeSetting_21 : decode cX3_changeSetting 21 = .ok (.getfield 18, 3) := by decide +kernel
theorem dX3_changeSetting_24 : decode cX3_changeSetting 24 = .ok (.iload_n 1, 1) := by decide +kernel
theorem dX3_changeSetting_25 : decode cX3_changeSetting 25 = .ok (.iload_n 2, 1) := by decide +kernel
theorem dX3_changeSetting_26 : decode cX3_changeSetting 26 = .ok (.iastore, 1) := by decide +kernel
theorem dX3_changeSetting_27 : decode cX3_changeSetting 27 = .ok (.iload_n 1, 1) := by decide +kernel
theorem dX3_changeSetting_28 : decode cX3_changeSetting 28 = .ok (.iconst 1, 1) := by decide +kernel
theorem dX3_changeSetting_29 : decode cX3_changeSetting 29 = .ok (.if_icmp .eq 8, 3) := by decide +kernel
theorem dX3_changeSetting_32 : decode cX3_changeSetting 32 = .ok (.iload_n 1, 1) := by decide +kernel
theorem dX3_changeSetting_33 : decode cX3_changeSetting 33 = .ok (.iconst 2, 1) := by decide +kernel
theorem dX3_changeSetting_34 : decode cX3_changeSetting 34 = .ok (.if_icmp .ne 13, 3) := by decide +kernel
theorem dX3_changeSetting_37 : decode cX3_changeSetting 37 = .ok (.aload_n 0, 1) := by decide +kernel
theorem dX3_changeSetting_38 : decode cX3_changeSetting 38 = .ok (.aload_n 0, 1) := by decide +kernel
theorem dX3_changeSetting_39 : decode cX3_changeSetting 39 = .ok (.getfield 18, 3) := by decide +kernel
theorem dX3_changeSetting_42 : decode cX3_changeSetting 42 = .ok (.iconst 1, 1) := by decide +kernel
theorem dX3_changeSetting_43 : decode cX3_changeSetting 43 = .ok (.iaload, 1) := by decide +kernel
theorem dX3_changeSetting_44 : decode cX3_changeSetting 44 = .ok (.putfield 37, 3) := by decide +kernel
theorem dX3_changeSetting_47 : decode cX3_changeSetting 47 = .ok (.iload_n 3, 1) := by decide +kernel
theorem dX3_changeSetting_48 : decode cX3_changeSetting 48 = .ok (.ireturn, 1) := by decide +kernel
theorem dX3_toMiddle_0 : decode cX3_toMiddle 0 = .ok (.aload_n 0, 1) := by decide +kernel
theorem dX3_toMiddle_1 : decode cX3_toMiddle 1 = .ok (.getfield 30, 3) := by decide +kernel
theorem dX3_toMiddle_4 : decode cX3_toMiddle 4 = .ok (.sipush 2048, 3) := by decide +kernel
theorem dX3_toMiddle_7 : decode cX3_toMiddle 7 = .ok (.isub, 1) := by decide +kernel
theorem dX3_toMiddle_8 : decode cX3_toMiddle 8 = .ok (.invokestatic 86, 3) := by decide +kernel
theorem dX3_toMiddle_11 : decode cX3_toMiddle 11 = .ok (.aload_n 0, 1) := by decide +kernel
theorem dX3_toMiddle_12 : decode cX3_toMiddle 12 = .ok (.getfield 34, 3) := by decide +kernel
theorem dX3_toMiddle_15 : decode cX3_toMiddle 15 = .ok (.sipush 2048, 3) := by decide +kernel
theorem dX3_toMiddle_18 : decode cX3_toMiddle 18 = .ok (.isub, 1) := by decide +kernel
theorem dX3_toMiddle_19 : decode cX3_toMiddle 19 = .ok (.invokestatic 86, 3) := by decide +kernel
theorem dX3_toMiddle_22 : decode cX3_toMiddle 22 = .ok (.iadd, 1) := by decide +kernel
theorem dX3_toMiddle_23 : decode cX3_toMiddle 23 = .ok (.istore_n 1, 1) := by decide +kernel
theorem dX3_toMiddle_24 : decode cX3_toMiddle 24 = .ok (.aload_n 0, 1) := by decide +kernel
theorem dX3_toMiddle_25 : decode cX3_toMiddle 25 = .ok (.sipush 2048, 3) := by decide +kernel
theorem dX3_toMiddle_28 : decode cX3_toMiddle 28 = .ok (.putfield 30, 3) := by decide +kernel
theorem dX3_toMiddle_31 : decode cX3_toMiddle 31 = .ok (.aload_n 0, 1) := by decide +kernel
theorem dX3_toMiddle_32 : decode cX3_toMiddle 32 = .ok (.sipush 2048, 3) := by decide +kernel
theorem dX3_toMiddle_35 : decode cX3_toMiddle 35 = .ok (.putfield 34, 3) := by decide +kernel
theorem dX3_toMiddle_38 : decode cX3_toMiddle 38 = .ok (.aload_n 0, 1) := by decide +kernel
theorem dX3_toMiddle_39 : decode cX3_toMiddle 39 = .ok (.aload_n 0, 1) := by decide +kernel
theorem dX3_toMiddle_40 : decode cX3_toMiddle 40 = .ok (.getfield 18, 3) := by decide +kernel
theorem dX3_toMiddle_43 : decode cX3_toMiddle 43 = .ok (.iconst 1, 1) := by decide +kernel
theorem dX3_toMiddle_44 : decode cX3_toMiddle 44 = .ok (.iaload, 1) := by decide +kernel
theorem dX3_toMiddle_45 : decode cX3_toMiddle 45 = .ok (.putfield 37, 3) := by decide +kernel
theorem dX3_toMiddle_48 : decode cX3_toMiddle 48 = .ok (.aload_n 0, 1) := by decide +kernel
theorem dX3_toMiddle_49 : decode cX3_toMiddle 49 = .ok (.iconst 0, 1) := by decide +kernel
theorem dX3_toMiddle_50 : decode cX3_toMiddle 50 = .ok (.putfield 62, 3) := by decide +kernel
theorem dX3_toMiddle_53 : decode cX3_toMiddle 53 = .ok (.iload_n 1, 1) := by decide +kernel
theorem dX3_toMiddle_54 : decode cX3_toMiddle 54 = .ok (.ireturn, 1) := by decide +kernel
theorem dX3_refusalOfPress_0 : decode cX3_refusalOfPress 0 = .ok (.iload_n 1, 1) := by decide +kernel
theorem dX3_refusalOfPress_1 : decode cX3_refusalOfPress 1 = .ok (.invokestatic 92, 3) := by decide +kernel
theorem dX3_refusalOfPress_4 : decode cX3_refusalOfPress 4 = .ok (.ifCond .ne 5, 3) := by decide +kernel
theorem dX3_refusalOfPress_7 : decode cX3_refusalOfPress 7 = .ok (.iconst (-1), 1) := by decide +kernel
theorem dX3_refusalOfPress_8 : decode cX3_refusalOfPress 8 = .ok (.ireturn, 1) := by decide +kernel
theorem dX3_refusalOfPress_9 : decode cX3_refusalOfPress 9 = .ok (.aload_n 0, 1) := by decide +kernel
theorem dX3_refusalOfPress_10 : decode cX3_refusalOfPress 10 = .ok (.iload_n 1, 1) := by decide +kernel
theorem dX3_refusalOfPress_11 : decode cX3_refusalOfPress 11 = .ok (.invokevirtual 96, 3) := by decide +kernel
theorem dX3_refusalOfPress_14 : decode cX3_refusalOfPress 14 = .ok (.ifCond .eq 8, 3) := by decide +kernel
theorem dX3_refusalOfPress_17 : decode cX3_refusalOfPress 17 = .ok (.bipush (-5), 2) := by decide +kernel
theorem dX3_refusalOfPress_19 : decode cX3_refusalOfPress 19 = .ok (.goto 4, 3) := by decide +kernel
theorem dX3_refusalOfPress_22 : decode cX3_refusalOfPress 22 = .ok (.iconst 0, 1) := by decide +kernel
theorem dX3_refusalOfPress_23 : decode cX3_refusalOfPress 23 = .ok (.ireturn, 1) := by decide +kernel
theorem dX3_refusalOfLetUp_0 : decode cX3_refusalOfLetUp 0 = .ok (.iload_n 1, 1) := by decide +kernel
theorem dX3_refusalOfLetUp_1 : decode cX3_refusalOfLetUp 1 = .ok (.invokestatic 92, 3) := by decide +kernel
theorem dX3_refusalOfLetUp_4 : decode cX3_refusalOfLetUp 4 = .ok (.ifCond .ne 5, 3) := by decide +kernel
theorem dX3_refusalOfLetUp_7 : decode cX3_refusalOfLetUp 7 = .ok (.iconst (-1), 1) := by decide +kernel
theorem dX3_refusalOfLetUp_8 : decode cX3_refusalOfLetUp 8 = .ok (.ireturn, 1) := by decide +kernel
theorem dX3_refusalOfLetUp_9 : decode cX3_refusalOfLetUp 9 = .ok (.aload_n 0, 1) := by decide +kernel
theorem dX3_refusalOfLetUp_10 : decode cX3_refusalOfLetUp 10 = .ok (.iload_n 1, 1) := by decide +kernel
theorem dX3_refusalOfLetUp_11 : decode cX3_refusalOfLetUp 11 = .ok (.invokevirtual 96, 3) := by decide +kernel
theorem dX3_refusalOfLetUp_14 : decode cX3_refusalOfLetUp 14 = .ok (.ifCond .eq 7, 3) := by decide +kernel
theorem dX3_refusalOfLetUp_17 : decode cX3_refusalOfLetUp 17 = .ok (.iconst 0, 1) := by decide +kernel
theorem dX3_refusalOfLetUp_18 : decode cX3_refusalOfLetUp 18 = .ok (.goto 5, 3) := by decide +kernel
theorem dX3_refusalOfLetUp_21 : decode cX3_refusalOfLetUp 21 = .ok (.bipush (-5), 2) := by decide +kernel
theorem dX3_refusalOfLetUp_23 : decode cX3_refusalOfLetUp 23 = .ok (.ireturn, 1) := by decide +kernel
theorem dX3_isButton_0 : decode cX3_isButton 0 = .ok (.iload_n 0, 1) := by decide +kernel
theorem dX3_isButton_1 : decode cX3_isButton 1 = .ok (.ifCond .lt 13, 3) := by decide +kernel
theorem dX3_isButton_4 : decode cX3_isButton 4 = .ok (.iload_n 0, 1) := by decide +kernel
theorem dX3_isButton_5 : decode cX3_isButton 5 = .ok (.bipush 8, 2) := by decide +kernel
theorem dX3_isButton_7 : decode cX3_isButton 7 = .ok (.if_icmp .ge 7, 3) := by decide +kernel
theorem dX3_isButton_10 : decode cX3_isButton 10 = .ok (.iconst 1, 1) := by decide +kernel
theorem dX3_isButton_11 : decode cX3_isButton 11 = .ok (.goto 4, 3) := by decide +kernel
theorem dX3_isButton_14 : decode cX3_isButton 14 = .ok (.iconst 0, 1) := by decide +kernel
theorem dX3_isButton_15 : decode cX3_isButton 15 = .ok (.ireturn, 1) := by decide +kernel
theorem dX3_isDown_0 : decode cX3_isDown 0 = .ok (.aload_n 0, 1) := by decide +kernel
theorem dX3_isDown_1 : decode cX3_isDown 1 = .ok (.getfield 77, 3) := by decide +kernel
theorem dX3_isDown_4 : decode cX3_isDown 4 = .ok (.iload_n 1, 1) := by decide +kernel
theorem dX3_isDown_5 : decode cX3_isDown 5 = .ok (.ishr, 1) := by decide +kernel
theorem dX3_isDown_6 : decode cX3_isDown 6 = .ok (.iconst 1, 1) := by decide +kernel
theorem dX3_isDown_7 : decode cX3_isDown 7 = .ok (.iand, 1) := by decide +kernel
theorem dX3_isDown_8 : decode cX3_isDown 8 = .ok (.iconst 1, 1) := by decide +kernel
theorem dX3_isDown_9 : decode cX3_isDown 9 = .ok (.if_icmp .ne 7, 3) := by decide +kernel
theorem dX3_isDown_12 : decode cX3_isDown 12 = .ok (.iconst 1, 1) := by decide +kernel
theorem dX3_isDown_13 : decode cX3_isDown 13 = .ok (.goto 4, 3) := by decide +kernel
theorem dX3_isDown_16 : decode cX3_isDown 16 = .ok (.iconst 0, 1) := by decide +kernel
theorem dX3_isDown_17 : decode cX3_isDown 17 = .ok (.ireturn, 1) := by decide +kernel
theorem dX3_pushDown_0 : decode cX3_pushDown 0 = .ok (.aload_n 0, 1) := by decide +kernel
theorem dX3_pushDown_1 : decode cX3_pushDown 1 = .ok (.dup, 1) := by decide +kernel
theorem dX3_pushDown_2 : decode cX3_pushDown 2 = .ok (.getfield 77, 3) := by decide +kernel
theorem dX3_pushDown_5 : decode cX3_pushDown 5 = .ok (.iconst 1, 1) := by decide +kernel
theorem dX3_pushDown_6 : decode cX3_pushDown 6 = .ok (.iload_n 1, 1) := by decide +kernel
theorem dX3_pushDown_7 : decode cX3_pushDown 7 = .ok (.ishl, 1) := by decide +kernel
theorem dX3_pushDown_8 : decode cX3_pushDown 8 = .ok (.ior, 1) := by decide +kernel
theorem dX3_pushDown_9 : decode cX3_pushDown 9 = .ok (.putfield 77, 3) := by decide +kernel
theorem dX3_pushDown_12 : decode cX3_pushDown 12 = .ok (.aload_n 0, 1) := by decide +kernel
theorem dX3_pushDown_13 : decode cX3_pushDown 13 = .ok (.aload_n 0, 1) := by decide +kernel
theorem dX3_pushDown_14 : decode cX3_pushDown 14 = .ok (.getfield 18, 3) := by decide +kernel
theorem dX3_pushDown_17 : decode cX3_pushDown 17 = .ok (.bipush 6, 2) := by decide +kernel
theorem dX3_pushDown_19 : decode cX3_pushDown 19 = .ok (.iaload, 1) := by decide +kernel
theorem dX3_pushDown_20 : decode cX3_pushDown 20 = .ok (.putfield 65, 3) := by decide +kernel
theorem dX3_pushDown_23 : decode cX3_pushDown 23 = .ok (.aload_n 0, 1) := by decide +kernel
theorem dX3_pushDown_24 : decode cX3_pushDown 24 = .ok (.getfield 77, 3) := by decide +kernel
theorem dX3_pushDown_27 : decode cX3_pushDown 27 = .ok (.ireturn, 1) := by decide +kernel
theorem dX3_release_0 : decode cX3_release 0 = .ok (.aload_n 0, 1) := by decide +kernel
theorem dX3_release_1 : decode cX3_release 1 = .ok (.dup, 1) := by decide +kernel
theorem dX3_release_2 : decode cX3_release 2 = .ok (.getfield 77, 3) := by decide +kernel
theorem dX3_release_5 : decode cX3_release 5 = .ok (.iconst 1, 1) := by decide +kernel
theorem dX3_release_6 : decode cX3_release 6 = .ok (.iload_n 1, 1) := by decide +kernel
theorem dX3_release_7 : decode cX3_release 7 = .ok (.ishl, 1) := by decide +kernel
theorem dX3_release_8 : decode cX3_release 8 = .ok (.iconst (-1), 1) := by decide +kernel
theorem dX3_release_9 : decode cX3_release 9 = .ok (.ixor, 1) := by decide +kernel
theorem dX3_release_10 : decode cX3_release 10 = .ok (.iand, 1) := by decide +kernel
theorem dX3_release_11 : decode cX3_release 11 = .ok (.putfield 77, 3) := by decide +kernel
theorem dX3_release_14 : decode cX3_release 14 = .ok (.aload_n 0, 1) := by decide +kernel
theorem dX3_release_15 : decode cX3_release 15 = .ok (.getfield 77, 3) := by decide +kernel
theorem dX3_release_18 : decode cX3_release 18 = .ok (.ireturn, 1) := by decide +kernel
theorem dX3_refusalOfSamples_0 : decode cX3_refusalOfSamples 0 = .ok (.iload_n 1, 1) := by decide +kernel
theorem dX3_refusalOfSamples_1 : decode cX3_refusalOfSamples 1 = .ok (.iload_n 2, 1) := by decide +kernel
theorem dX3_refusalOfSamples_2 : decode cX3_refusalOfSamples 2 = .ok (.invokestatic 99, 3) := by decide +kernel
theorem dX3_refusalOfSamples_5 : decode cX3_refusalOfSamples 5 = .ok (.ifCond .ne 6, 3) := by decide +kernel
theorem dX3_refusalOfSamples_8 : decode cX3_refusalOfSamples 8 = .ok (.bipush (-2), 2) := by decide +kernel
theorem dX3_refusalOfSamples_10 : decode cX3_refusalOfSamples 10 = .ok (.ireturn, 1) := by decide +kernel
theorem dX3_refusalOfSamples_11 : decode cX3_refusalOfSamples 11 = .ok (.aload_n 0, 1) := by decide +kernel
theorem dX3_refusalOfSamples_12 : decode cX3_refusalOfSamples 12 = .ok (.getfield 68, 3) := by decide +kernel
theorem dX3_refusalOfSamples_15 : decode cX3_refusalOfSamples 15 = .ok (.iload_n 3, 1) := by decide +kernel
theorem dX3_refusalOfSamples_16 : decode cX3_refusalOfSamples 16 = .ok (.iadd, 1) := by decide +kernel
theorem dX3_refusalOfSamples_17 : decode cX3_refusalOfSamples 17 = .ok (.sipush 9999, 3) := by decide +kernel
theorem dX3_refusalOfSamples_20 : decode cX3_refusalOfSamples 20 = .ok (.if_icmp .le 8, 3) := by decide +kernel
theorem dX3_refusalOfSamples_23 : decode cX3_refusalOfSamples 23 = .ok (.bipush (-5), 2) := by decide +kernel
theorem dX3_refusalOfSamples_25 : decode cX3_refusalOfSamples 25 = .ok (.goto 4, 3) := by decide +kernel
theorem dX3_refusalOfSamples_28 : decode cX3_refusalOfSamples 28 = .ok (.iconst 0, 1) := by decide +kernel
theorem dX3_refusalOfSamples_29 : decode cX3_refusalOfSamples 29 = .ok (.ireturn, 1) := by decide +kernel
theorem dX3_restPlaceX_0 : decode cX3_restPlaceX 0 = .ok (.aload_n 0, 1) := by decide +kernel
theorem dX3_restPlaceX_1 : decode cX3_restPlaceX 1 = .ok (.getfield 30, 3) := by decide +kernel
theorem dX3_restPlaceX_4 : decode cX3_restPlaceX 4 = .ok (.bipush 16, 2) := by decide +kernel
theorem dX3_restPlaceX_6 : decode cX3_restPlaceX 6 = .ok (.idiv, 1) := by decide +kernel
theorem dX3_restPlaceX_7 : decode cX3_restPlaceX 7 = .ok (.ireturn, 1) := by decide +kernel
theorem dX3_restPlaceY_0 : decode cX3_restPlaceY 0 = .ok (.aload_n 0, 1) := by decide +kernel
theorem dX3_restPlaceY_1 : decode cX3_restPlaceY 1 = .ok (.getfield 34, 3) := by decide +kernel
theorem dX3_restPlaceY_4 : decode cX3_restPlaceY 4 = .ok (.bipush 16, 2) := by decide +kernel
theorem dX3_restPlaceY_6 : decode cX3_restPlaceY 6 = .ok (.idiv, 1) := by decide +kernel
theorem dX3_restPlaceY_7 : decode cX3_restPlaceY 7 = .ok (.ireturn, 1) := by decide +kernel
theorem dX3_isOffByNothing_0 : decode cX3_isOffByNothing 0 = .ok (.iload_n 1, 1) := by decide +kernel
theorem dX3_isOffByNothing_1 : decode cX3_isOffByNothing 1 = .ok (.aload_n 0, 1) := by decide +kernel
theorem dX3_isOffByNothing_2 : decode cX3_isOffByNothing 2 = .ok (.invokevirtual 103, 3) := by decide +kernel
theorem dX3_isOffByNothing_5 : decode cX3_isOffByNothing 5 = .ok (.if_icmp .ne 15, 3) := by decide +kernel
theorem dX3_isOffByNothing_8 : decode cX3_isOffByNothing 8 = .ok (.iload_n 2, 1) := by decide +kernel
theorem dX3_isOffByNothing_9 : decode cX3_isOffByNothing 9 = .ok (.aload_n 0, 1) := by decide +kernel
theorem dX3_isOffByNothing_10 : decode cX3_isOffByNothing 10 = .ok (.invokevirtual 107, 3) := by decide +kernel
theorem dX3_isOffByNothing_13 : decode cX3_isOffByNothing 13 = .ok (.if_icmp .ne 7, 3) := by decide +kernel
theorem dX3_isOffByNothing_16 : decode cX3_isOffByNothing 16 = .ok (.iconst 1, 1) := by decide +kernel
theorem dX3_isOffByNothing_17 : decode cX3_isOffByNothing 17 = .ok (.goto 4, 3) := by decide +kernel
theorem dX3_isOffByNothing_20 : decode cX3_isOffByNothing 20 = .ok (.iconst 0, 1) := by decide +kernel
theorem dX3_isOffByNothing_21 : decode cX3_isOffByNothing 21 = .ok (.ireturn, 1) := by decide +kernel
theorem dX3_farthestOff_0 : decode cX3_farthestOff 0 = .ok (.iload_n 1, 1) := by decide +kernel
theorem dX3_farthestOff_1 : decode cX3_farthestOff 1 = .ok (.aload_n 0, 1) := by decide +kernel
theorem dX3_farthestOff_2 : decode cX3_farthestOff 2 = .ok (.invokevirtual 103, 3) := by decide +kernel
theorem dX3_farthestOff_5 : decode cX3_farthestOff 5 = .ok (.isub, 1) := by decide +kernel
theorem dX3_farthestOff_6 : decode cX3_farthestOff 6 = .ok (.invokestatic 86, 3) := by decide +kernel
theorem dX3_farthestOff_9 : decode cX3_farthestOff 9 = .ok (.iload_n 2, 1) := by decide +kernel
theorem dX3_farthestOff_10 : decode cX3_farthestOff 10 = .ok (.aload_n 0, 1) := by decide +kernel
theorem dX3_farthestOff_11 : decode cX3_farthestOff 11 = .ok (.invokevirtual 107, 3) := by decide +kernel
theorem dX3_farthestOff_14 : decode cX3_farthestOff 14 = .ok (.isub, 1) := by decide +kernel
theorem dX3_farthestOff_15 : decode cX3_farthestOff 15 = .ok (.invokestatic 86, 3) := by decide +kernel
theorem dX3_farthestOff_18 : decode cX3_farthestOff 18 = .ok (.invokestatic 110, 3) := by decide +kernel
theorem dX3_farthestOff_21 : decode cX3_farthestOff 21 = .ok (.ireturn, 1) := by decide +kernel
theorem dX3_stillWith_0 : decode cX3_stillWith 0 = .ok (.aload_n 0, 1) := by decide +kernel
theorem dX3_stillWith_1 : decode cX3_stillWith 1 = .ok (.getfield 68, 3) := by decide +kernel
theorem dX3_stillWith_4 : decode cX3_stillWith 4 = .ok (.ifCond .le 33, 3) := by decide +kernel
theorem dX3_stillWith_7 : decode cX3_stillWith 7 = .ok (.iload_n 1, 1) := by decide +kernel
theorem dX3_stillWith_8 : decode cX3_stillWith 8 = .ok (.aload_n 0, 1) := by decide +kernel
theorem dX3_stillWith_9 : decode cX3_stillWith 9 = .ok (.getfield 56, 3) := by decide +kernel
theorem dX3_stillWith_12 : decode cX3_stillWith 12 = .ok (.isub, 1) := by decide +kernel
theorem dX3_stillWith_13 : decode cX3_stillWith 13 = .ok (.invokestatic 86, 3) := by decide +kernel
theorem dX3_stillWith_16 : decode cX3_stillWith 16 = .ok (.iconst 1, 1) := by decide +kernel
theorem dX3_stillWith_17 : decode cX3_stillWith 17 = .ok (.if_icmp .gt 20, 3) := by decide +kernel
theorem dX3_stillWith_20 : decode cX3_stillWith 20 = .ok (.iload_n 2, 1) := by decide +kernel
theorem dX3_stillWith_21 : decode cX3_stillWith 21 = .ok (.aload_n 0, 1) := by decide +kernel
theorem dX3_stillWith_22 : decode cX3_stillWith 22 = .ok (.getfield 59, 3) := by decide +kernel
theorem dX3_stillWith_25 : decode cX3_stillWith 25 = .ok (.isub, 1) := by decide +kernel
theorem dX3_stillWith_26 : decode cX3_stillWith 26 = .ok (.invokestatic 86, 3) := by decide +kernel
theorem dX3_stillWith_29 : decode cX3_stillWith 29 = .ok (.iconst 1, 1) := by decide +kernel
theorem dX3_stillWith_30 : decode cX3_stillWith 30 = .ok (.if_icmp .gt 7, 3) := by decide +kernel
theorem dX3_stillWith_33 : decode cX3_stillWith 33 = .ok (.iconst 1, 1) := by decide +kernel
theorem dX3_stillWith_34 : decode cX3_stillWith 34 = .ok (.goto 4, 3) := by decide +kernel
theorem dX3_stillWith_37 : decode cX3_stillWith 37 = .ok (.iconst 0, 1) := by decide +kernel
theorem dX3_stillWith_38 : decode cX3_stillWith 38 = .ok (.istore_n 3, 1) := by decide +kernel
theorem dX3_stillWith_39 : decode cX3_stillWith 39 = .ok (.iload_n 3, 1) := by decide +kernel
theorem dX3_stillWith_40 : decode cX3_stillWith 40 = .ok (.ifCond .eq 12, 3) := by decide +kernel
theorem dX3_stillWith_43 : decode cX3_stillWith 43 = .ok (.aload_n 0, 1) := by decide +kernel
theorem dX3_stillWith_44 : decode cX3_stillWith 44 = .ok (.getfield 62, 3) := by decide +kernel
theorem dX3_stillWith_47 : decode cX3_stillWith 47 = .ok (.iconst 1, 1) := by decide +kernel
theorem dX3_stillWith_48 : decode cX3_stillWith 48 = .ok (.iadd, 1) := by decide +kernel
theorem dX3_stillWith_49 : decode cX3_stillWith 49 = .ok (.goto 4, 3) := by decide +kernel
theorem dX3_stillWith_52 : decode cX3_stillWith 52 = .ok (.iconst 0, 1) := by decide +kernel
theorem dX3_stillWith_53 : decode cX3_stillWith 53 = .ok (.ireturn, 1) := by decide +kernel
theorem dX3_wouldDrift_0 : decode cX3_wouldDrift 0 = .ok (.aload_n 0, 1) := by decide +kernel
theorem dX3_wouldDrift_1 : decode cX3_wouldDrift 1 = .ok (.iload_n 1, 1) := by decide +kernel
theorem dX3_wouldDrift_2 : decode cX3_wouldDrift 2 = .ok (.iload_n 2, 1) := by decide +kernel
theorem dX3_wouldDrift_3 : decode cX3_wouldDrift 3 = .ok (.invokevirtual 114, 3) := by decide +kernel
theorem dX3_wouldDrift_6 : decode cX3_wouldDrift 6 = .ok (.istore_n 3, 1) := by decide +kernel
theorem dX3_wouldDrift_7 : decode cX3_wouldDrift 7 = .ok (.aload_n 0, 1) := by decide +kernel
theorem dX3_wouldDrift_8 : decode cX3_wouldDrift 8 = .ok (.getfield 65, 3) := by decide +kernel
theorem dX3_wouldDrift_11 : decode cX3_wouldDrift 11 = .ok (.ifCond .ne 41, 3) := by decide +kernel
theorem dX3_wouldDrift_14 : decode cX3_wouldDrift 14 = .ok (.iload_n 3, 1) := by decide +kernel
theorem dX3_wouldDrift_15 : decode cX3_wouldDrift 15 = .ok (.aload_n 0, 1) := by decide +kernel
theorem dX3_wouldDrift_16 : decode cX3_wouldDrift 16 = .ok (.getfield 37, 3) := by decide +kernel
theorem dX3_wouldDrift_19 : decode cX3_wouldDrift 19 = .ok (.if_icmp .le 33, 3) := by decide +kernel
theorem dX3_wouldDrift_22 : decode cX3_wouldDrift 22 = .ok (.iload_n 3, 1) := by decide +kernel
theorem dX3_wouldDrift_23 : decode cX3_wouldDrift 23 = .ok (.aload_n 0, 1) := by decide +kernel
theorem dX3_wouldDrift_24 : decode cX3_wouldDrift 24 = .ok (.getfield 37, 3) := by decide +kernel
theorem dX3_wouldDrift_27 : decode cX3_wouldDrift 27 = .ok (.bipush 8, 2) := by decide +kernel
theorem dX3_wouldDrift_29 : decode cX3_wouldDrift 29 = .ok (.iadd, 1) := by decide +kernel
theorem dX3_wouldDrift_30 : decode cX3_wouldDrift 30 = .ok (.if_icmp .gt 22, 3) := by decide +kernel
theorem dX3_wouldDrift_33 : decode cX3_wouldDrift 33 = .ok (.aload_n 0, 1) := by decide +kernel
theorem dX3_wouldDrift_34 : decode cX3_wouldDrift 34 = .ok (.iload_n 1, 1) := by decide +kernel
theorem dX3_wouldDrift_35 : decode cX3_wouldDrift 35 = .ok (.iload_n 2, 1) := by decide +kernel
theorem dX3_wouldDrift_36 : decode cX3_wouldDrift 36 = .ok (.invokevirtual 117, 3) := by decide +kernel
theorem dX3_wouldDrift_39 : decode cX3_wouldDrift 39 = .ok (.aload_n 0, 1) := by decide +kernel
theorem dX3_wouldDrift_40 : decode cX3_wouldDrift 40 = .ok (.getfield 18, 3) := by decide +kernel
theorem dX3_wouldDrift_43 : decode cX3_wouldDrift 43 = .ok (.iconst 5, 1) := by decide +kernel
theorem dX3_wouldDrift_44 : decode cX3_wouldDrift 44 = .ok (.iaload, 1) := by decide +kernel
theorem dX3_wouldDrift_45 : decode cX3_wouldDrift 45 = .ok (.if_icmp .lt 7, 3) := by decide +kernel
theorem dX3_wouldDrift_48 : decode cX3_wouldDrift 48 = .ok (.iconst 1, 1) := by decide +kernel
theorem dX3_wouldDrift_49 : decode cX3_wouldDrift 49 = .ok (.goto 4, 3) := by decide +kernel
theorem dX3_wouldDrift_52 : decode cX3_wouldDrift 52 = .ok (.iconst 0, 1) := by decide +kernel
theorem dX3_wouldDrift_53 : decode cX3_wouldDrift 53 = .ok (.ireturn, 1) := by decide +kernel
theorem dX3_tellingAt_0 : decode cX3_tellingAt 0 = .ok (.aload_n 0, 1) := by decide +kernel
theorem dX3_tellingAt_1 : decode cX3_tellingAt 1 = .ok (.iload_n 1, 1) := by decide +kernel
theorem dX3_tellingAt_2 : decode cX3_tellingAt 2 = .ok (.iload_n 2, 1) := by decide +kernel
theorem dX3_tellingAt_3 : decode cX3_tellingAt 3 = .ok (.invokevirtual 114, 3) := by decide +kernel
theorem dX3_tellingAt_6 : decode cX3_tellingAt 6 = .ok (.aload_n 0, 1) := by decide +kernel
theorem dX3_tellingAt_7 : decode cX3_tellingAt 7 = .ok (.getfield 37, 3) := by decide +kernel
theorem dX3_tellingAt_10 : decode cX3_tellingAt 10 = .ok (.if_icmp .le 12, 3) := by decide +kernel
theorem dX3_tellingAt_13 : decode cX3_tellingAt 13 = .ok (.aload_n 0, 1) := by decide +kernel
theorem dX3_tellingAt_14 : decode cX3_tellingAt 14 = .ok (.iload_n 1, 1) := by decide +kernel
theorem dX3_tellingAt_15 : decode cX3_tellingAt 15 = .ok (.iload_n 2, 1) := by decide +kernel
theorem dX3_tellingAt_16 : decode cX3_tellingAt 16 = .ok (.invokevirtual 120, 3) := by decide +kernel
theorem dX3_tellingAt_19 : decode cX3_tellingAt 19 = .ok (.ifCond .eq 9, 3) := by decide +kernel
theorem dX3_tellingAt_22 : decode cX3_tellingAt 22 = .ok (.iconst 0, 1) := by decide +kernel
theorem dX3_tellingAt_23 : decode cX3_tellingAt 23 = .ok (.iconst 0, 1) := by decide +kernel
theorem dX3_tellingAt_24 : decode cX3_tellingAt 24 = .ok (.invokestatic 123, 3) := by decide +kernel
theorem dX3_tellingAt_27 : decode cX3_tellingAt 27 = .ok (.ireturn, 1) := by decide +kernel
theorem dX3_tellingAt_28 : decode cX3_tellingAt 28 = .ok (.aload_n 0, 1) := by decide +kernel
theorem dX3_tellingAt_29 : decode cX3_tellingAt 29 = .ok (.iload_n 1, 1) := by decide +kernel
theorem dX3_tellingAt_30 : decode cX3_tellingAt 30 = .ok (.aload_n 0, 1) := by decide +kernel
theorem dX3_tellingAt_31 : decode cX3_tellingAt 31 = .ok (.invokevirtual 103, 3) := by decide +kernel
theorem dX3_tellingAt_34 : decode cX3_tellingAt 34 = .ok (.isub, 1) := by decide +kernel
theorem dX3_tellingAt_35 : decode cX3_tellingAt 35 = .ok (.invokevirtual 126, 3) := by decide +kernel
theorem dX3_tellingAt_38 : decode cX3_tellingAt 38 = .ok (.istore_n 3, 1) := by decide +kernel
theorem dX3_tellingAt_39 : decode cX3_tellingAt 39 = .ok (.aload_n 0, 1) := by decide +kernel
theorem dX3_tellingAt_40 : decode cX3_tellingAt 40 = .ok (.iload_n 2, 1) := by decide +kernel
theorem dX3_tellingAt_41 : decode cX3_tellingAt 41 = .ok (.aload_n 0, 1) := by decide +kernel
theorem dX3_tellingAt_42 : decode cX3_tellingAt 42 = .ok (.invokevirtual 107, 3) := by decide +kernel
theorem dX3_tellingAt_45 : decode cX3_tellingAt 45 = .ok (.isub, 1) := by decide +kernel
theorem dX3_tellingAt_46 : decode cX3_tellingAt 46 = .ok (.invokevirtual 126, 3) := by decide +kernel
theorem dX3_tellingAt_49 : decode cX3_tellingAt 49 = .ok (.istore 4, 2) := by decide +kernel
theorem dX3_tellingAt_51 : decode cX3_tellingAt 51 = .ok (.iload_n 3, 1) := by decide +kernel
theorem dX3_tellingAt_52 : decode cX3_tellingAt 52 = .ok (.invokestatic 86, 3) := by decide +kernel
theorem dX3_tellingAt_55 : decode cX3_tellingAt 55 = .ok (.iload 4, 2) := by decide +kernel
theorem dX3_tellingAt_57 : decode cX3_tellingAt 57 = .ok (.invokestatic 86, 3) := by decide +kernel
theorem dX3_tellingAt_60 : decode cX3_tellingAt 60 = .ok (.iadd, 1) := by decide +kernel
theorem dX3_tellingAt_61 : decode cX3_tellingAt 61 = .ok (.istore 5, 2) := by decide +kernel
theorem dX3_tellingAt_63 : decode cX3_tellingAt 63 = .ok (.aload_n 0, 1) := by decide +kernel
theorem dX3_tellingAt_64 : decode cX3_tellingAt 64 = .ok (.getfield 18, 3) := by decide +kernel
theorem dX3_tellingAt_67 : decode cX3_tellingAt 67 = .ok (.iconst 4, 1) := by decide +kernel
theorem dX3_tellingAt_68 : decode cX3_tellingAt 68 = .ok (.iaload, 1) := by decide +kernel
theorem dX3_tellingAt_69 : decode cX3_tellingAt 69 = .ok (.istore 6, 2) := by decide +kernel
theorem dX3_tellingAt_71 : decode cX3_tellingAt 71 = .ok (.iload 5, 2) := by decide +kernel
theorem dX3_tellingAt_73 : decode cX3_tellingAt 73 = .ok (.iload 6, 2) := by decide +kernel
theorem dX3_tellingAt_75 : decode cX3_tellingAt 75 = .ok (.if_icmp .le 26, 3) := by decide +kernel
theorem dX3_tellingAt_78 : decode cX3_tellingAt 78 = .ok (.iload_n 3, 1) := by decide +kernel
theorem dX3_tellingAt_79 : decode cX3_tellingAt 79 = .ok (.iload 6, 2) := by decide +kernel
theorem dX3_tellingAt_81 : decode cX3_tellingAt 81 = .ok (.imul, 1) := by decide +kernel
theorem dX3_tellingAt_82 : decode cX3_tellingAt 82 = .ok (.iload 5, 2) := by decide +kernel
theorem dX3_tellingAt_84 : decode cX3_tellingAt 84 = .ok (.invokestatic 129, 3) := by decide +kernel
theorem dX3_tellingAt_87 : decode cX3_tellingAt 87 = .ok (.iload 4, 2) := by decide +kernel
theorem dX3_tellingAt_89 : decode cX3_tellingAt 89 = .ok (.iload 6, 2) := by decide +kernel
theorem dX3_tellingAt_91 : decode cX3_tellingAt 91 = .ok (.imul, 1) := by decide +kernel
theorem dX3_tellingAt_92 : decode cX3_tellingAt 92 = .ok (.iload 5, 2) := by decide +kernel
theorem dX3_tellingAt_94 : decode cX3_tellingAt 94 = .ok (.invokestatic 129, 3) := by decide +kernel
theorem dX3_tellingAt_97 : decode cX3_tellingAt 97 = .ok (.invokestatic 123, 3) := by decide +kernel
theorem dX3_tellingAt_100 : decode cX3_tellingAt 100 = .ok (.ireturn, 1) := by decide +kernel
theorem dX3_tellingAt_101 : decode cX3_tellingAt 101 = .ok (.iload_n 3, 1) := by decide +kernel
theorem dX3_tellingAt_102 : decode cX3_tellingAt 102 = .ok (.iload 4, 2) := by decide +kernel
theorem dX3_tellingAt_104 : decode cX3_tellingAt 104 = .ok (.invokestatic 123, 3) := by decide +kernel
theorem dX3_tellingAt_107 : decode cX3_tellingAt 107 = .ok (.ireturn, 1) := by decide +kernel
theorem dX3_leanOf_0 : decode cX3_leanOf 0 = .ok (.iload_n 1, 1) := by decide +kernel
theorem dX3_leanOf_1 : decode cX3_leanOf 1 = .ok (.invokestatic 86, 3) := by decide +kernel
theorem dX3_leanOf_4 : decode cX3_leanOf 4 = .ok (.aload_n 0, 1) := by decide +kernel
theorem dX3_leanOf_5 : decode cX3_leanOf 5 = .ok (.getfield 37, 3) := by decide +kernel
theorem dX3_leanOf_8 : decode cX3_leanOf 8 = .ok (.isub, 1) := by decide +kernel
theorem dX3_leanOf_9 : decode cX3_leanOf 9 = .ok (.istore_n 2, 1) := by decide +kernel
theorem dX3_leanOf_10 : decode cX3_leanOf 10 = .ok (.iload_n 2, 1) := by decide +kernel
theorem dX3_leanOf_11 : decode cX3_leanOf 11 = .ok (.ifCond .gt 5, 3) := by decide +kernel
theorem dX3_leanOf_14 : decode cX3_leanOf 14 = .ok (.iconst 0, 1) := by decide +kernel
theorem dX3_leanOf_15 : decode cX3_leanOf 15 = .ok (.ireturn, 1) := by decide +kernel
theorem dX3_leanOf_16 : decode cX3_leanOf 16 = .ok (.bipush 100, 2) := by decide +kernel
theorem dX3_leanOf_18 : decode cX3_leanOf 18 = .ok (.iload_n 2, 1) := by decide +kernel
theorem dX3_leanOf_19 : decode cX3_leanOf 19 = .ok (.bipush 100, 2) := by decide +kernel
theorem dX3_leanOf_21 : decode cX3_leanOf 21 = .ok (.imul, 1) := by decide +kernel
theorem dX3_leanOf_22 : decode cX3_leanOf 22 = .ok (.aload_n 0, 1) := by decide +kernel
theorem dX3_leanOf_23 : decode cX3_leanOf 23 = .ok (.getfield 18, 3) := by decide +kernel
theorem dX3_leanOf_26 : decode cX3_leanOf 26 = .ok (.iconst 3, 1) := by decide +kernel
theorem dX3_leanOf_27 : decode cX3_leanOf 27 = .ok (.iaload, 1) := by decide +kernel
theorem dX3_leanOf_28 : decode cX3_leanOf 28 = .ok (.aload_n 0, 1) := by decide +kernel
theorem dX3_leanOf_29 : decode cX3_leanOf 29 = .ok (.getfield 37, 3) := by decide +kernel
theorem dX3_leanOf_32 : decode cX3_leanOf 32 = .ok (.isub, 1) := by decide +kernel
theorem dX3_leanOf_33 : decode cX3_leanOf 33 = .ok (.invokestatic 129, 3) := by decide +kernel
theorem dX3_leanOf_36 : decode cX3_leanOf 36 = .ok (.invokestatic 132, 3) := by decide +kernel
theorem dX3_leanOf_39 : decode cX3_leanOf 39 = .ok (.istore_n 3, 1) := by decide +kernel
theorem dX3_leanOf_40 : decode cX3_leanOf 40 = .ok (.iload_n 1, 1) := by decide +kernel
theorem dX3_leanOf_41 : decode cX3_leanOf 41 = .ok (.ifCond .ge 8, 3) := by decide +kernel
theorem dX3_leanOf_44 : decode cX3_leanOf 44 = .ok (.iload_n 3, 1) := by decide +kernel
theorem dX3_leanOf_45 : decode cX3_leanOf 45 = .ok (.ineg, 1) := by decide +kernel
theorem dX3_leanOf_46 : decode cX3_leanOf 46 = .ok (.goto 4, 3) := by decide +kernel
theorem dX3_leanOf_49 : decode cX3_leanOf 49 = .ok (.iload_n 3, 1) := by decide +kernel
theorem dX3_leanOf_50 : decode cX3_leanOf 50 = .ok (.ireturn, 1) := by decide +kernel
theorem dX3_telling_0 : decode cX3_telling 0 = .ok (.aload_n 0, 1) := by decide +kernel
theorem dX3_telling_1 : decode cX3_telling 1 = .ok (.getfield 50, 3) := by decide +kernel
theorem dX3_telling_4 : decode cX3_telling 4 = .ok (.aload_n 0, 1) := by decide +kernel
theorem dX3_telling_5 : decode cX3_telling 5 = .ok (.getfield 53, 3) := by decide +kernel
theorem dX3_telling_8 : decode cX3_telling 8 = .ok (.invokestatic 123, 3) := by decide +kernel
theorem dX3_telling_11 : decode cX3_telling 11 = .ok (.ireturn, 1) := by decide +kernel
theorem dX3_tellsSomething_0 : decode cX3_tellsSomething 0 = .ok (.aload_n 0, 1) := by decide +kernel
theorem dX3_tellsSomething_1 : decode cX3_tellsSomething 1 = .ok (.getfield 50, 3) := by decide +kernel
theorem dX3_tellsSomething_4 : decode cX3_tellsSomething 4 = .ok (.ifCond .ne 10, 3) := by decide +kernel
theorem dX3_tellsSomething_7 : decode cX3_tellsSomething 7 = .ok (.aload_n 0, 1) := by decide +kernel
theorem dX3_tellsSomething_8 : decode cX3_tellsSomething 8 = .ok (.getfield 53, 3) := by decide +kernel
theorem dX3_tellsSomething_11 : decode cX3_tellsSomething 11 = .ok (.ifCond .eq 7, 3) := by decide +kernel
theorem dX3_tellsSomething_14 : decode cX3_tellsSomething 14 = .ok (.iconst 1, 1) := by decide +kernel
theorem dX3_tellsSomething_15 : decode cX3_tellsSomething 15 = .ok (.goto 4, 3) := by decide +kernel
theorem dX3_tellsSomething_18 : decode cX3_tellsSomething 18 = .ok (.iconst 0, 1) := by decide +kernel
theorem dX3_tellsSomething_19 : decode cX3_tellsSomething 19 = .ok (.ireturn, 1) := by decide +kernel
theorem dX3_take_0 : decode cX3_take 0 = .ok (.aload_n 0, 1) := by decide +kernel
theorem dX3_take_1 : decode cX3_take 1 = .ok (.iload_n 1, 1) := by decide +kernel
theorem dX3_take_2 : decode cX3_take 2 = .ok (.iload_n 2, 1) := by decide +kernel
theorem dX3_take_3 : decode cX3_take 3 = .ok (.invokevirtual 135, 3) := by decide +kernel
theorem dX3_take_6 : decode cX3_take 6 = .ok (.istore_n 3, 1) := by decide +kernel
theorem dX3_take_7 : decode cX3_take 7 = .ok (.aload_n 0, 1) := by decide +kernel
theorem dX3_take_8 : decode cX3_take 8 = .ok (.iload_n 1, 1) := by decide +kernel
theorem dX3_take_9 : decode cX3_take 9 = .ok (.iload_n 2, 1) := by decide +kernel
theorem dX3_take_10 : decode cX3_take 10 = .ok (.invokevirtual 114, 3) := by decide +kernel
theorem dX3_take_13 : decode cX3_take 13 = .ok (.aload_n 0, 1) := by decide +kernel
theorem dX3_take_14 : decode cX3_take 14 = .ok (.getfield 37, 3) := by decide +kernel
theorem dX3_take_17 : decode cX3_take 17 = .ok (.if_icmp .gt 7, 3) := by decide +kernel
theorem dX3_take_20 : decode cX3_take 20 = .ok (.iconst 1, 1) := by decide +kernel
theorem dX3_take_21 : decode cX3_take 21 = .ok (.goto 4, 3) := by decide +kernel
theorem dX3_take_24 : decode cX3_take 24 = .ok (.iconst 0, 1) := by decide +kernel
theorem dX3_take_25 : decode cX3_take 25 = .ok (.istore 4, 2) := by decide +kernel
theorem dX3_take_27 : decode cX3_take 27 = .ok (.aload_n 0, 1) := by decide +kernel
theorem dX3_take_28 : decode cX3_take 28 = .ok (.iload_n 1, 1) := by decide +kernel
theorem dX3_take_29 : decode cX3_take 29 = .ok (.iload_n 2, 1) := by decide +kernel
theorem dX3_take_30 : decode cX3_take 30 = .ok (.invokevirtual 120, 3) := by decide +kernel
theorem dX3_take_33 : decode cX3_take 33 = .ok (.istore 5, 2) := by decide +kernel
theorem dX3_take_35 : decode cX3_take 35 = .ok (.aload_n 0, 1) := by decide +kernel
theorem dX3_take_36 : decode cX3_take 36 = .ok (.aload_n 0, 1) := by decide +kernel
theorem dX3_take_37 : decode cX3_take 37 = .ok (.iload_n 1, 1) := by decide +kernel
theorem dX3_take_38 : decode cX3_take 38 = .ok (.iload_n 2, 1) := by decide +kernel
theorem dX3_take_39 : decode cX3_take 39 = .ok (.invokevirtual 117, 3) := by decide +kernel
theorem dX3_take_42 : decode cX3_take 42 = .ok (.putfield 62, 3) := by decide +kernel
theorem dX3_take_45 : decode cX3_take 45 = .ok (.aload_n 0, 1) := by decide +kernel
theorem dX3_take_46 : decode cX3_take 46 = .ok (.iload_n 1, 1) := by decide +kernel
theorem dX3_take_47 : decode cX3_take 47 = .ok (.putfield 56, 3) := by decide +kernel
theorem dX3_take_50 : decode cX3_take 50 = .ok (.aload_n 0, 1) := by decide +kernel
theorem dX3_take_51 : decode cX3_take 51 = .ok (.iload_n 2, 1) := by decide +kernel
theorem dX3_take_52 : decode cX3_take 52 = .ok (.putfield 59, 3) := by decide +kernel
theorem dX3_take_55 : decode cX3_take 55 = .ok (.iload 4, 2) := by decide +kernel
theorem dX3_take_57 : decode cX3_take 57 = .ok (.ifCond .eq 12, 3) := by decide +kernel
theorem dX3_take_60 : decode cX3_take 60 = .ok (.aload_n 0, 1) := by decide +kernel
theorem dX3_take_61 : decode cX3_take 61 = .ok (.iload_n 1, 1) := by decide +kernel
theorem dX3_take_62 : decode cX3_take 62 = .ok (.iload_n 2, 1) := by decide +kernel
theorem dX3_take_63 : decode cX3_take 63 = .ok (.invokevirtual 138, 3) := by decide +kernel
theorem dX3_take_66 : decode cX3_take 66 = .ok (.goto 14, 3) := by decide +kernel
theorem dX3_take_69 : decode cX3_take 69 = .ok (.iload 5, 2) := by decide +kernel
theorem dX3_take_71 : decode cX3_take 71 = .ok (.ifCond .eq 9, 3) := by decide +kernel
theorem dX3_take_74 : decode cX3_take 74 = .ok (.aload_n 0, 1) := by decide +kernel
theorem dX3_take_75 : decode cX3_take 75 = .ok (.iload_n 1, 1) := by decide +kernel
theorem dX3_take_76 : decode cX3_take 76 = .ok (.iload_n 2, 1) := by decide +kernel
theorem dX3_take_77 : decode cX3_take 77 = .ok (.invokevirtual 142, 3) := by decide +kernel
theorem dX3_take_80 : decode cX3_take 80 = .ok (.aload_n 0, 1) := by decide +kernel
theorem dX3_take_81 : decode cX3_take 81 = .ok (.iload_n 3, 1) := by decide +kernel
theorem dX3_take_82 : decode cX3_take 82 = .ok (.invokevirtual 145, 3) := by decide +kernel
theorem dX3_take_85 : decode cX3_take 85 = .ok (.aload_n 0, 1) := by decide +kernel
theorem dX3_take_86 : decode cX3_take 86 = .ok (.getfield 65, 3) := by decide +kernel
theorem dX3_take_89 : decode cX3_take 89 = .ok (.ifCond .le 13, 3) := by decide +kernel
theorem dX3_take_92 : decode cX3_take 92 = .ok (.aload_n 0, 1) := by decide +kernel
theorem dX3_take_93 : decode cX3_take 93 = .ok (.dup, 1) := by decide +kernel
theorem dX3_take_94 : decode cX3_take 94 = .ok (.getfield 65, 3) := by decide +kernel
theorem dX3_take_97 : decode cX3_take 97 = .ok (.iconst 1, 1) := by decide +kernel
theorem dX3_take_98 : decode cX3_take 98 = .ok (.isub, 1) := by decide +kernel
theorem dX3_take_99 : decode cX3_take 99 = .ok (.putfield 65, 3) := by decide +kernel
theorem dX3_take_102 : decode cX3_take 102 = .ok (.aload_n 0, 1) := by decide +kernel
theorem dX3_take_103 : decode cX3_take 103 = .ok (.dup, 1) := by decide +kernel
theorem dX3_take_104 : decode cX3_take 104 = .ok (.getfield 68, 3) := by decide +kernel
theorem dX3_take_107 : decode cX3_take 107 = .ok (.iconst 1, 1) := by decide +kernel
theorem dX3_take_108 : decode cX3_take 108 = .ok (.iadd, 1) := by decide +kernel
theorem dX3_take_109 : decode cX3_take 109 = .ok (.putfield 68, 3) := by decide +kernel
theorem dX3_take_112 : decode cX3_take 112 = .ok (.return_, 1) := by decide +kernel
theorem dX3_tell_0 : decode cX3_tell 0 = .ok (.aload_n 0, 1) := by decide +kernel
theorem dX3_tell_1 : decode cX3_tell 1 = .ok (.iload_n 1, 1) := by decide +kernel
theorem dX3_tell_2 : decode cX3_tell 2 = .ok (.sipush 1000, 3) := by decide +kernel
theorem dX3_tell_5 : decode cX3_tell 5 = .ok (.idiv, 1) := by decide +kernel
theorem dX3_tell_6 : decode cX3_tell 6 = .ok (.bipush 100, 2) := by decide +kernel
theorem dX3_tell_8 : decode cX3_tell 8 = .ok (.isub, 1) := by decide +kernel
theorem dX3_tell_9 : decode cX3_tell 9 = .ok (.putfield 50, 3) := by decide +kernel
theorem dX3_tell_12 : decode cX3_tell 12 = .ok (.aload_n 0, 1) := by decide +kernel
theorem dX3_tell_13 : decode cX3_tell 13 = .ok (.iload_n 1, 1) := by decide +kernel
theorem dX3_tell_14 : decode cX3_tell 14 = .ok (.sipush 1000, 3) := by decide +kernel
theorem dX3_tell_17 : decode cX3_tell 17 = .ok (.irem, 1) := by decide +kernel
theorem dX3_tell_18 : decode cX3_tell 18 = .ok (.bipush 100, 2) := by decide +kernel
theorem dX3_tell_20 : decode cX3_tell 20 = .ok (.isub, 1) := by decide +kernel
theorem dX3_tell_21 : decode cX3_tell 21 = .ok (.putfield 53, 3) := by decide +kernel
theorem dX3_tell_24 : decode cX3_tell 24 = .ok (.aload_n 0, 1) := by decide +kernel
theorem dX3_tell_25 : decode cX3_tell 25 = .ok (.invokevirtual 149, 3) := by decide +kernel
theorem dX3_tell_28 : decode cX3_tell 28 = .ok (.ifCond .eq 13, 3) := by decide +kernel
theorem dX3_tell_31 : decode cX3_tell 31 = .ok (.aload_n 0, 1) := by decide +kernel
theorem dX3_tell_32 : decode cX3_tell 32 = .ok (.dup, 1) := by decide +kernel
theorem dX3_tell_33 : decode cX3_tell 33 = .ok (.getfield 80, 3) := by decide +kernel
theorem dX3_tell_36 : decode cX3_tell 36 = .ok (.iconst 1, 1) := by decide +kernel
theorem dX3_tell_37 : decode cX3_tell 37 = .ok (.iadd, 1) := by decide +kernel
theorem dX3_tell_38 : decode cX3_tell 38 = .ok (.putfield 80, 3) := by decide +kernel
theorem dX3_tell_41 : decode cX3_tell 41 = .ok (.aload_n 0, 1) := by decide +kernel
theorem dX3_tell_42 : decode cX3_tell 42 = .ok (.getfield 26, 3) := by decide +kernel
theorem dX3_tell_45 : decode cX3_tell 45 = .ok (.aload_n 0, 1) := by decide +kernel
theorem dX3_tell_46 : decode cX3_tell 46 = .ok (.getfield 50, 3) := by decide +kernel
theorem dX3_tell_49 : decode cX3_tell 49 = .ok (.iconst 0, 1) := by decide +kernel
theorem dX3_tell_50 : decode cX3_tell 50 = .ok (.invokestatic 153, 3) := by decide +kernel
theorem dX3_tell_53 : decode cX3_tell 53 = .ok (.aload_n 0, 1) := by decide +kernel
theorem dX3_tell_54 : decode cX3_tell 54 = .ok (.getfield 53, 3) := by decide +kernel
theorem dX3_tell_57 : decode cX3_tell 57 = .ok (.iconst 0, 1) := by decide +kernel
theorem dX3_tell_58 : decode cX3_tell 58 = .ok (.invokestatic 153, 3) := by decide +kernel
theorem dX3_tell_61 : decode cX3_tell 61 = .ok (.invokevirtual 158, 3) := by decide +kernel
theorem dX3_tell_64 : decode cX3_tell 64 = .ok (.return_, 1) := by decide +kernel
theorem dX3_comeToRest_0 : decode cX3_comeToRest 0 = .ok (.aload_n 0, 1) := by decide +kernel
theorem dX3_comeToRest_1 : decode cX3_comeToRest 1 = .ok (.invokevirtual 149, 3) := by decide +kernel
theorem dX3_comeToRest_4 : decode cX3_comeToRest 4 = .ok (.ifCond .eq 13, 3) := by decide +kernel
theorem dX3_comeToRest_7 : decode cX3_comeToRest 7 = .ok (.aload_n 0, 1) := by decide +kernel
theorem dX3_comeToRest_8 : decode cX3_comeToRest 8 = .ok (.dup, 1) := by decide +kernel
theorem dX3_comeToRest_9 : decode cX3_comeToRest 9 = .ok (.getfield 71, 3) := by decide +kernel
theorem dX3_comeToRest_12 : decode cX3_comeToRest 12 = .ok (.iconst 1, 1) := by decide +kernel
theorem dX3_comeToRest_13 : decode cX3_comeToRest 13 = .ok (.iadd, 1) := by decide +kernel
theorem dX3_comeToRest_14 : decode cX3_comeToRest 14 = .ok (.putfield 71, 3) := by decide +kernel
theorem dX3_comeToRest_17 : decode cX3_comeToRest 17 = .ok (.aload_n 0, 1) := by decide +kernel
theorem dX3_comeToRest_18 : decode cX3_comeToRest 18 = .ok (.getfield 65, 3) := by decide +kernel
theorem dX3_comeToRest_21 : decode cX3_comeToRest 21 = .ok (.ifCond .le 14, 3) := by decide +kernel
theorem dX3_comeToRest_24 : decode cX3_comeToRest 24 = .ok (.aload_n 0, 1) := by decide +kernel
theorem dX3_comeToRest_25 : decode cX3_comeToRest 25 = .ok (.dup, 1) := by decide +kernel
theorem dX3_comeToRest_26 : decode cX3_comeToRest 26 = .ok (.getfield 83, 3) := by decide +kernel
theorem dX3_comeToRest_29 : decode cX3_comeToRest 29 = .ok (.iconst 1, 1) := by decide +kernel
theorem dX3_comeToRest_30 : decode cX3_comeToRest 30 = .ok (.iadd, 1) := by decide +kernel
theorem dX3_comeToRest_31 : decode cX3_comeToRest 31 = .ok (.putfield 83, 3) := by decide +kernel
theorem dX3_comeToRest_34 : decode cX3_comeToRest 34 = .ok (.return_, 1) := by decide +kernel
theorem dX3_comeToRest_35 : decode cX3_comeToRest 35 = .ok (.aload_n 0, 1) := by decide +kernel
theorem dX3_comeToRest_36 : decode cX3_comeToRest 36 = .ok (.aload_n 0, 1) := by decide +kernel
theorem dX3_comeToRest_37 : decode cX3_comeToRest 37 = .ok (.iload_n 1, 1) := by decide +kernel
theorem dX3_comeToRest_38 : decode cX3_comeToRest 38 = .ok (.iload_n 2, 1) := by decide +kernel
theorem dX3_comeToRest_39 : decode cX3_comeToRest 39 = .ok (.invokevirtual 114, 3) := by decide +kernel
theorem dX3_comeToRest_42 : decode cX3_comeToRest 42 = .ok (.invokevirtual 161, 3) := by decide +kernel
theorem dX3_comeToRest_45 : decode cX3_comeToRest 45 = .ok (.aload_n 0, 1) := by decide +kernel
theorem dX3_comeToRest_46 : decode cX3_comeToRest 46 = .ok (.dup, 1) := by decide +kernel
theorem dX3_comeToRest_47 : decode cX3_comeToRest 47 = .ok (.getfield 30, 3) := by decide +kernel
theorem dX3_comeToRest_50 : decode cX3_comeToRest 50 = .ok (.bipush 16, 2) := by decide +kernel
theorem dX3_comeToRest_52 : decode cX3_comeToRest 52 = .ok (.iload_n 1, 1) := by decide +kernel
theorem dX3_comeToRest_53 : decode cX3_comeToRest 53 = .ok (.imul, 1) := by decide +kernel
theorem dX3_comeToRest_54 : decode cX3_comeToRest 54 = .ok (.aload_n 0, 1) := by decide +kernel
theorem dX3_comeToRest_55 : decode cX3_comeToRest 55 = .ok (.getfield 30, 3) := by decide +kernel
theorem dX3_comeToRest_58 : decode cX3_comeToRest 58 = .ok (.isub, 1) := by decide +kernel
theorem dX3_comeToRest_59 : decode cX3_comeToRest 59 = .ok (.aload_n 0, 1) := by decide +kernel
theorem dX3_comeToRest_60 : decode cX3_comeToRest 60 = .ok (.getfield 18, 3) := by decide +kernel
theorem dX3_comeToRest_63 : decode cX3_comeToRest 63 = .ok (.iconst 0, 1) := by decide +kernel
theorem dX3_comeToRest_64 : decode cX3_comeToRest 64 = .ok (.iaload, 1) := by decide +kernel
theorem dX3_comeToRest_65 : decode cX3_comeToRest 65 = .ok (.invokestatic 129, 3) := by decide +kernel
theorem dX3_comeToRest_68 : decode cX3_comeToRest 68 = .ok (.iadd, 1) := by decide +kernel
theorem dX3_comeToRest_69 : decode cX3_comeToRest 69 = .ok (.putfield 30, 3) := by decide +kernel
theorem dX3_comeToRest_72 : decode cX3_comeToRest 72 = .ok (.aload_n 0, 1) := by decide +kernel
theorem dX3_comeToRest_73 : decode cX3_comeToRest 73 = .ok (.dup, 1) := by decide +kernel
theorem dX3_comeToRest_74 : decode cX3_comeToRest 74 = .ok (.getfield 34, 3) := by decide +kernel
theorem dX3_comeToRest_77 : decode cX3_comeToRest 77 = .ok (.bipush 16, 2) := by decide +kernel
theorem dX3_comeToRest_79 : decode cX3_comeToRest 79 = .ok (.iload_n 2, 1) := by decide +kernel
theorem dX3_comeToRest_80 : decode cX3_comeToRest 80 = .ok (.imul, 1) := by decide +kernel
theorem dX3_comeToRest_81 : decode cX3_comeToRest 81 = .ok (.aload_n 0, 1) := by decide +kernel
theorem dX3_comeToRest_82 : decode cX3_comeToRest 82 = .ok (.getfield 34, 3) := by decide +kernel
theorem dX3_comeToRest_85 : decode cX3_comeToRest 85 = .ok (.isub, 1) := by decide +kernel
theorem dX3_comeToRest_86 : decode cX3_comeToRest 86 = .ok (.aload_n 0, 1) := by decide +kernel
theorem dX3_comeToRest_87 : decode cX3_comeToRest 87 = .ok (.getfield 18, 3) := by decide +kernel
theorem dX3_comeToRest_90 : decode cX3_comeToRest 90 = .ok (.iconst 0, 1) := by decide +kernel
theorem dX3_comeToRest_91 : decode cX3_comeToRest 91 = .ok (.iaload, 1) := by decide +kernel
theorem dX3_comeToRest_92 : decode cX3_comeToRest 92 = .ok (.invokestatic 129, 3) := by decide +kernel
theorem dX3_comeToRest_95 : decode cX3_comeToRest 95 = .ok (.iadd, 1) := by decide +kernel
theorem dX3_comeToRest_96 : decode cX3_comeToRest 96 = .ok (.putfield 34, 3) := by decide +kernel
theorem dX3_comeToRest_99 : decode cX3_comeToRest 99 = .ok (.return_, 1) := by decide +kernel
theorem dX3_fitZone_0 : decode cX3_fitZone 0 = .ok (.iconst 2, 1) := by decide +kernel
theorem dX3_fitZone_1 : decode cX3_fitZone 1 = .ok (.iload_n 1, 1) := by decide +kernel
theorem dX3_fitZone_2 : decode cX3_fitZone 2 = .ok (.imul, 1) := by decide +kernel
theorem dX3_fitZone_3 : decode cX3_fitZone 3 = .ok (.aload_n 0, 1) := by decide +kernel
theorem dX3_fitZone_4 : decode cX3_fitZone 4 = .ok (.getfield 37, 3) := by decide +kernel
theorem dX3_fitZone_7 : decode cX3_fitZone 7 = .ok (.if_icmp .le 32, 3) := by decide +kernel
theorem dX3_fitZone_10 : decode cX3_fitZone 10 = .ok (.aload_n 0, 1) := by decide +kernel
theorem dX3_fitZone_11 : decode cX3_fitZone 11 = .ok (.aload_n 0, 1) := by decide +kernel
theorem dX3_fitZone_12 : decode cX3_fitZone 12 = .ok (.getfield 37, 3) := by decide +kernel
theorem dX3_fitZone_15 : decode cX3_fitZone 15 = .ok (.iconst 1, 1) := by decide +kernel
theorem dX3_fitZone_16 : decode cX3_fitZone 16 = .ok (.iadd, 1) := by decide +kernel
theorem dX3_fitZone_17 : decode cX3_fitZone 17 = .ok (.aload_n 0, 1) := by decide +kernel
theorem dX3_fitZone_18 : decode cX3_fitZone 18 = .ok (.getfield 18, 3) := by decide +kernel
theorem dX3_fitZone_21 : decode cX3_fitZone 21 = .ok (.iconst 1, 1) := by decide +kernel
theorem dX3_fitZone_22 : decode cX3_fitZone 22 = .ok (.iaload, 1) := by decide +kernel
theorem dX3_fitZone_23 : decode cX3_fitZone 23 = .ok (.aload_n 0, 1) := by decide +kernel
theorem dX3_fitZone_24 : decode cX3_fitZone 24 = .ok (.getfield 18, 3) := by decide +kernel
theorem dX3_fitZone_27 : decode cX3_fitZone 27 = .ok (.iconst 2, 1) := by decide +kernel
theorem dX3_fitZone_28 : decode cX3_fitZone 28 = .ok (.iaload, 1) := by decide +kernel
theorem dX3_fitZone_29 : decode cX3_fitZone 29 = .ok (.iadd, 1) := by decide +kernel
theorem dX3_fitZone_30 : decode cX3_fitZone 30 = .ok (.invokestatic 132, 3) := by decide +kernel
theorem dX3_fitZone_33 : decode cX3_fitZone 33 = .ok (.putfield 37, 3) := by decide +kernel
theorem dX3_fitZone_36 : decode cX3_fitZone 36 = .ok (.goto 32, 3) := by decide +kernel
theorem dX3_fitZone_39 : decode cX3_fitZone 39 = .ok (.iconst 4, 1) := by decide +kernel
theorem dX3_fitZone_40 : decode cX3_fitZone 40 = .ok (.iload_n 1, 1) := by decide +kernel
theorem dX3_fitZone_41 : decode cX3_fitZone 41 = .ok (.imul, 1) := by decide +kernel
theorem dX3_fitZone_42 : decode cX3_fitZone 42 = .ok (.aload_n 0, 1) := by decide +kernel
theorem dX3_fitZone_43 : decode cX3_fitZone 43 = .ok (.getfield 37, 3) := by decide +kernel
theorem dX3_fitZone_46 : decode cX3_fitZone 46 = .ok (.if_icmp .gt 22, 3) := by decide +kernel
theorem dX3_fitZone_49 : decode cX3_fitZone 49 = .ok (.aload_n 0, 1) := by decide +kernel
theorem dX3_fitZone_50 : decode cX3_fitZone 50 = .ok (.aload_n 0, 1) := by decide +kernel
theorem dX3_fitZone_51 : decode cX3_fitZone 51 = .ok (.getfield 37, 3) := by decide +kernel
theorem dX3_fitZone_54 : decode cX3_fitZone 54 = .ok (.iconst 1, 1) := by decide +kernel
theorem dX3_fitZone_55 : decode cX3_fitZone 55 = .ok (.isub, 1) := by decide +kernel
theorem dX3_fitZone_56 : decode cX3_fitZone 56 = .ok (.aload_n 0, 1) := by decide +kernel
theorem dX3_fitZone_57 : decode cX3_fitZone 57 = .ok (.getfield 18, 3) := by decide +kernel
theorem dX3_fitZone_60 : decode cX3_fitZone 60 = .ok (.iconst 1, 1) := by decide +kernel
theorem dX3_fitZone_61 : decode cX3_fitZone 61 = .ok (.iaload, 1) := by decide +kernel
theorem dX3_fitZone_62 : decode cX3_fitZone 62 = .ok (.invokestatic 110, 3) := by decide +kernel
theorem dX3_fitZone_65 : decode cX3_fitZone 65 = .ok (.putfield 37, 3) := by decide +kernel
theorem dX3_fitZone_68 : decode cX3_fitZone 68 = .ok (.return_, 1) := by decide +kernel
theorem dX3_driftTo_0 : decode cX3_driftTo 0 = .ok (.aload_n 0, 1) := by decide +kernel
theorem dX3_driftTo_1 : decode cX3_driftTo 1 = .ok (.bipush 16, 2) := by decide +kernel
theorem dX3_driftTo_3 : decode cX3_driftTo 3 = .ok (.iload_n 1, 1) := by decide +kernel
theorem dX3_driftTo_4 : decode cX3_driftTo 4 = .ok (.imul, 1) := by decide +kernel
theorem dX3_driftTo_5 : decode cX3_driftTo 5 = .ok (.putfield 30, 3) := by decide +kernel
theorem dX3_driftTo_8 : decode cX3_driftTo 8 = .ok (.aload_n 0, 1) := by decide +kernel
theorem dX3_driftTo_9 : decode cX3_driftTo 9 = .ok (.bipush 16, 2) := by decide +kernel
theorem dX3_driftTo_11 : decode cX3_driftTo 11 = .ok (.iload_n 2, 1) := by decide +kernel
theorem dX3_driftTo_12 : decode cX3_driftTo 12 = .ok (.imul, 1) := by decide +kernel
theorem dX3_driftTo_13 : decode cX3_driftTo 13 = .ok (.putfield 34, 3) := by decide +kernel
theorem dX3_driftTo_16 : decode cX3_driftTo 16 = .ok (.aload_n 0, 1) := by decide +kernel
theorem dX3_driftTo_17 : decode cX3_driftTo 17 = .ok (.iconst 0, 1) := by decide +kernel
theorem dX3_driftTo_18 : decode cX3_driftTo 18 = .ok (.putfield 62, 3) := by decide +kernel
theorem dX3_driftTo_21 : decode cX3_driftTo 21 = .ok (.aload_n 0, 1) := by decide +kernel
theorem dX3_driftTo_22 : decode cX3_driftTo 22 = .ok (.dup, 1) := by decide +kernel
theorem dX3_driftTo_23 : decode cX3_driftTo 23 = .ok (.getfield 74, 3) := by decide +kernel
theorem dX3_driftTo_26 : decode cX3_driftTo 26 = .ok (.iconst 1, 1) := by decide +kernel
theorem dX3_driftTo_27 : decode cX3_driftTo 27 = .ok (.iadd, 1) := by decide +kernel
theorem dX3_driftTo_28 : decode cX3_driftTo 28 = .ok (.putfield 74, 3) := by decide +kernel
theorem dX3_driftTo_31 : decode cX3_driftTo 31 = .ok (.return_, 1) := by decide +kernel
theorem dX3_aboutX_0 : decode cX3_aboutX 0 = .ok (.aload_n 0, 1) := by decide +kernel
theorem dX3_aboutX_1 : decode cX3_aboutX 1 = .ok (.iload_n 1, 1) := by decide +kernel
theorem dX3_aboutX_2 : decode cX3_aboutX 2 = .ok (.aload_n 0, 1) := by decide +kernel
theorem dX3_aboutX_3 : decode cX3_aboutX 3 = .ok (.getfield 30, 3) := by decide +kernel
theorem dX3_aboutX_6 : decode cX3_aboutX 6 = .ok (.aload_n 0, 1) := by decide +kernel
theorem dX3_aboutX_7 : decode cX3_aboutX 7 = .ok (.getfield 50, 3) := by decide +kernel
theorem dX3_aboutX_10 : decode cX3_aboutX 10 = .ok (.aload_n 0, 1) := by decide +kernel
theorem dX3_aboutX_11 : decode cX3_aboutX 11 = .ok (.getfield 56, 3) := by decide +kernel
theorem dX3_aboutX_14 : decode cX3_aboutX 14 = .ok (.invokevirtual 164, 3) := by decide +kernel
theorem dX3_aboutX_17 : decode cX3_aboutX 17 = .ok (.ireturn, 1) := by decide +kernel
theorem dX3_aboutY_0 : decode cX3_aboutY 0 = .ok (.aload_n 0, 1) := by decide +kernel
theorem dX3_aboutY_1 : decode cX3_aboutY 1 = .ok (.iload_n 1, 1) := by decide +kernel
theorem dX3_aboutY_2 : decode cX3_aboutY 2 = .ok (.aload_n 0, 1) := by decide +kernel
theorem dX3_aboutY_3 : decode cX3_aboutY 3 = .ok (.getfield 34, 3) := by decide +kernel
theorem dX3_aboutY_6 : decode cX3_aboutY 6 = .ok (.aload_n 0, 1) := by decide +kernel
theorem dX3_aboutY_7 : decode cX3_aboutY 7 = .ok (.getfield 53, 3) := by decide +kernel
theorem dX3_aboutY_10 : decode cX3_aboutY 10 = .ok (.aload_n 0, 1) := by decide +kernel
theorem dX3_aboutY_11 : decode cX3_aboutY 11 = .ok (.getfield 59, 3) := by decide +kernel
theorem dX3_aboutY_14 : decode cX3_aboutY 14 = .ok (.invokevirtual 164, 3) := by decide +kernel
theorem dX3_aboutY_17 : decode cX3_aboutY 17 = .ok (.ireturn, 1) := by decide +kernel
theorem dX3_about_0 : decode cX3_about 0 = .ok (.iload_n 1, 1) := by decide +kernel
theorem dX3_about_1 : decode cX3_about 1 = .ok (.tableswitch 77 0 3 #[31, 33, 38, 53], 31) := by decide +kernel
theorem dX3_about_32 : decode cX3_about 32 = .ok (.iload_n 2, 1) := by decide +kernel
theorem dX3_about_33 : decode cX3_about 33 = .ok (.ireturn, 1) := by decide +kernel
theorem dX3_about_34 : decode cX3_about 34 = .ok (.iload_n 3, 1) := by decide +kernel
theorem dX3_about_35 : decode cX3_about 35 = .ok (.bipush 100, 2) := by decide +kernel
theorem dX3_about_37 : decode cX3_about 37 = .ok (.iadd, 1) := by decide +kernel
theorem dX3_about_38 : decode cX3_about 38 = .ok (.ireturn, 1) := by decide +kernel
theorem dX3_about_39 : decode cX3_about 39 = .ok (.aload_n 0, 1) := by decide +kernel
theorem dX3_about_40 : decode cX3_about 40 = .ok (.getfield 68, 3) := by decide +kernel
theorem dX3_about_43 : decode cX3_about 43 = .ok (.ifCond .ne 8, 3) := by decide +kernel
theorem dX3_about_46 : decode cX3_about 46 = .ok (.bipush (-6), 2) := by decide +kernel
theorem dX3_about_48 : decode cX3_about 48 = .ok (.goto 5, 3) := by decide +kernel
theorem dX3_about_51 : decode cX3_about 51 = .ok (.iload 4, 2) := by decide +kernel
theorem dX3_about_53 : decode cX3_about 53 = .ok (.ireturn, 1) := by decide +kernel
theorem dX3_about_54 : decode cX3_about 54 = .ok (.aload_n 0, 1) := by decide +kernel
theorem dX3_about_55 : decode cX3_about 55 = .ok (.getfield 68, 3) := by decide +kernel
theorem dX3_about_58 : decode cX3_about 58 = .ok (.ifCond .ne 8, 3) := by decide +kernel
theorem dX3_about_61 : decode cX3_about 61 = .ok (.bipush (-6), 2) := by decide +kernel
theorem dX3_about_63 : decode cX3_about 63 = .ok (.goto 14, 3) := by decide +kernel
theorem dX3_about_66 : decode cX3_about 66 = .ok (.iload 4, 2) := by decide +kernel
theorem dX3_about_68 : decode cX3_about 68 = .ok (.iload_n 2, 1) := by decide +kernel
theorem dX3_about_69 : decode cX3_about 69 = .ok (.bipush 16, 2) := by decide +kernel
theorem dX3_about_71 : decode cX3_about 71 = .ok (.idiv, 1) := by decide +kernel
theorem dX3_about_72 : decode cX3_about 72 = .ok (.isub, 1) := by decide +kernel
theorem dX3_about_73 : decode cX3_about 73 = .ok (.sipush 1000, 3) := by decide +kernel
theorem dX3_about_76 : decode cX3_about 76 = .ok (.iadd, 1) := by decide +kernel
theorem dX3_about_77 : decode cX3_about 77 = .ok (.ireturn, 1) := by decide +kernel
theorem dX3_about_78 : decode cX3_about 78 = .ok (.bipush (-2), 2) := by decide +kernel
theorem dX3_about_80 : decode cX3_about 80 = .ok (.ireturn, 1) := by decide +kernel
theorem dX3_number_0 : decode cX3_number 0 = .ok (.iload_n 1, 1) := by decide +kernel
theorem dX3_number_1 : decode cX3_number 1 = .ok (.bipush 10, 2) := by decide +kernel
theorem dX3_number_3 : decode cX3_number 3 = .ok (.if_icmp .lt 22, 3) := by decide +kernel
theorem dX3_number_6 : decode cX3_number 6 = .ok (.iload_n 1, 1) := by decide +kernel
theorem dX3_number_7 : decode cX3_number 7 = .ok (.bipush 10, 2) := by decide +kernel
theorem dX3_number_9 : decode cX3_number 9 = .ok (.isub, 1) := by decide +kernel
theorem dX3_number_10 : decode cX3_number 10 = .ok (.bipush 7, 2) := by decide +kernel
theorem dX3_number_12 : decode cX3_number 12 = .ok (.if_icmp .ge 13, 3) := by decide +kernel
theorem dX3_number_15 : decode cX3_number 15 = .ok (.aload_n 0, 1) := by decide +kernel
theorem dX3_number_16 : decode cX3_number 16 = .ok (.getfield 18, 3) := by decide +kernel
theorem dX3_number_19 : decode cX3_number 19 = .ok (.iload_n 1, 1) := by decide +kernel
theorem dX3_number_20 : decode cX3_number 20 = .ok (.bipush 10, 2) := by decide +kernel
theorem dX3_number_22 : decode cX3_number 22 = .ok (.isub, 1) := by decide +kernel
theorem dX3_number_23 : decode cX3_number 23 = .ok (.iaload, 1) := by decide +kernel
theorem dX3_number_24 : decode cX3_number 24 = .ok (.ireturn, 1) := by decide +kernel
theorem dX3_number_25 : decode cX3_number 25 = .ok (.iload_n 1, 1) := by decide +kernel
theorem dX3_number_26 : decode cX3_number 26 = .ok (.tableswitch 107 0 9 #[54, 59, 64, 69, 74, 79, 84, 89, 94, 102], 54) := by decide +kernel
theorem dX3_number_80 : decode cX3_number 80 = .ok (.aload_n 0, 1) := by decide +kernel
theorem dX3_number_81 : decode cX3_number 81 = .ok (.getfield 68, 3) := by decide +kernel
theorem dX3_number_84 : decode cX3_number 84 = .ok (.ireturn, 1) := by decide +kernel
theorem dX3_number_85 : decode cX3_number 85 = .ok (.aload_n 0, 1) := by decide +kernel
theorem dX3_number_86 : decode cX3_number 86 = .ok (.getfield 37, 3) := by decide +kernel
theorem dX3_number_89 : decode cX3_number 89 = .ok (.ireturn, 1) := by decide +kernel
theorem dX3_number_90 : decode cX3_number 90 = .ok (.aload_n 0, 1) := by decide +kernel
theorem dX3_number_91 : decode cX3_number 91 = .ok (.getfield 62, 3) := by decide +kernel
theorem dX3_number_94 : decode cX3_number 94 = .ok (.ireturn, 1) := by decide +kernel
theorem dX3_number_95 : decode cX3_number 95 = .ok (.aload_n 0, 1) := by decide +kernel
theorem dX3_number_96 : decode cX3_number 96 = .ok (.getfield 65, 3) := by decide +kernel
theorem dX3_number_99 : decode cX3_number 99 = .ok (.ireturn, 1) := by decide +kernel
theorem dX3_number_100 : decode cX3_number 100 = .ok (.aload_n 0, 1) := by decide +kernel
theorem dX3_number_101 : decode cX3_number 101 = .ok (.getfield 71, 3) := by decide +kernel
theorem dX3_number_104 : decode cX3_number 104 = .ok (.ireturn, 1) := by decide +kernel
theorem dX3_number_105 : decode cX3_number 105 = .ok (.aload_n 0, 1) := by decide +kernel
theorem dX3_number_106 : decode cX3_number 106 = .ok (.getfield 74, 3) := by decide +kernel
theorem dX3_number_109 : decode cX3_number 109 = .ok (.ireturn, 1) := by decide +kernel
theorem dX3_number_110 : decode cX3_number 110 = .ok (.aload_n 0, 1) := by decide +kernel
theorem dX3_number_111 : decode cX3_number 111 = .ok (.getfield 77, 3) := by decide +kernel
theorem dX3_number_114 : decode cX3_number 114 = .ok (.ireturn, 1) := by decide +kernel
theorem dX3_number_115 : decode cX3_number 115 = .ok (.aload_n 0, 1) := by decide +kernel
theorem dX3_number_116 : decode cX3_number 116 = .ok (.getfield 80, 3) := by decide +kernel
theorem dX3_number_119 : decode cX3_number 119 = .ok (.ireturn, 1) := by decide +kernel
theorem dX3_number_120 : decode cX3_number 120 = .ok (.aload_n 0, 1) := by decide +kernel
theorem dX3_number_121 : decode cX3_number 121 = .ok (.getfield 26, 3) := by decide +kernel
theorem dX3_number_124 : decode cX3_number 124 = .ok (.getfield 168, 3) := by decide +kernel
theorem dX3_number_127 : decode cX3_number 127 = .ok (.ireturn, 1) := by decide +kernel
theorem dX3_number_128 : decode cX3_number 128 = .ok (.aload_n 0, 1) := by decide +kernel
theorem dX3_number_129 : decode cX3_number 129 = .ok (.getfield 83, 3) := by decide +kernel
theorem dX3_number_132 : decode cX3_number 132 = .ok (.ireturn, 1) := by decide +kernel
theorem dX3_number_133 : decode cX3_number 133 = .ok (.bipush (-2), 2) := by decide +kernel
theorem dX3_number_135 : decode cX3_number 135 = .ok (.ireturn, 1) := by decide +kernel
theorem dJ6_compare_7cf53_0 : decode cJ6_compare_7cf53 0 = .ok (.iload_n 0, 1) := by decide +kernel
theorem dJ6_compare_7cf53_1 : decode cJ6_compare_7cf53 1 = .ok (.iload_n 1, 1) := by decide +kernel
theorem dJ6_compare_7cf53_2 : decode cJ6_compare_7cf53 2 = .ok (.if_icmp .ge 7, 3) := by decide +kernel
theorem dJ6_compare_7cf53_5 : decode cJ6_compare_7cf53 5 = .ok (.iconst (-1), 1) := by decide +kernel
theorem dJ6_compare_7cf53_6 : decode cJ6_compare_7cf53 6 = .ok (.goto 13, 3) := by decide +kernel
theorem dJ6_compare_7cf53_9 : decode cJ6_compare_7cf53 9 = .ok (.iload_n 0, 1) := by decide +kernel
theorem dJ6_compare_7cf53_10 : decode cJ6_compare_7cf53 10 = .ok (.iload_n 1, 1) := by decide +kernel
theorem dJ6_compare_7cf53_11 : decode cJ6_compare_7cf53 11 = .ok (.if_icmp .ne 7, 3) := by decide +kernel
theorem dJ6_compare_7cf53_14 : decode cJ6_compare_7cf53 14 = .ok (.iconst 0, 1) := by decide +kernel
theorem dJ6_compare_7cf53_15 : decode cJ6_compare_7cf53 15 = .ok (.goto 4, 3) := by decide +kernel
theorem dJ6_compare_7cf53_18 : decode cJ6_compare_7cf53 18 = .ok (.iconst 1, 1) := by decide +kernel
theorem dJ6_compare_7cf53_19 : decode cJ6_compare_7cf53 19 = .ok (.ireturn, 1) := by decide +kernel
theorem dJ9_floorMod_7cf53_0 : decode cJ9_floorMod_7cf53 0 = .ok (.iload_n 0, 1) := by decide +kernel
theorem dJ9_floorMod_7cf53_1 : decode cJ9_floorMod_7cf53 1 = .ok (.iload_n 1, 1) := by decide +kernel
theorem dJ9_floorMod_7cf53_2 : decode cJ9_floorMod_7cf53 2 = .ok (.irem, 1) := by decide +kernel
theorem dJ9_floorMod_7cf53_3 : decode cJ9_floorMod_7cf53 3 = .ok (.istore_n 2, 1) := by decide +kernel
theorem dJ9_floorMod_7cf53_4 : decode cJ9_floorMod_7cf53 4 = .ok (.iload_n 0, 1) := by decide +kernel
theorem dJ9_floorMod_7cf53_5 : decode cJ9_floorMod_7cf53 5 = .ok (.iload_n 1, 1) := by decide +kernel
theorem dJ9_floorMod_7cf53_6 : decode cJ9_floorMod_7cf53 6 = .ok (.ixor, 1) := by decide +kernel
theorem dJ9_floorMod_7cf53_7 : decode cJ9_floorMod_7cf53 7 = .ok (.ifCond .ge 11, 3) := by decide +kernel
theorem dJ9_floorMod_7cf53_10 : decode cJ9_floorMod_7cf53 10 = .ok (.iload_n 2, 1) := by decide +kernel
theorem dJ9_floorMod_7cf53_11 : decode cJ9_floorMod_7cf53 11 = .ok (.ifCond .eq 7, 3) := by decide +kernel
theorem dJ9_floorMod_7cf53_14 : decode cJ9_floorMod_7cf53 14 = .ok (.iload_n 2, 1) := by decide +kernel
theorem dJ9_floorMod_7cf53_15 : decode cJ9_floorMod_7cf53 15 = .ok (.iload_n 1, 1) := by decide +kernel
theorem dJ9_floorMod_7cf53_16 : decode cJ9_floorMod_7cf53 16 = .ok (.iadd, 1) := by decide +kernel
theorem dJ9_floorMod_7cf53_17 : decode cJ9_floorMod_7cf53 17 = .ok (.ireturn, 1) := by decide +kernel
theorem dJ9_floorMod_7cf53_18 : decode cJ9_floorMod_7cf53 18 = .ok (.iload_n 2, 1) := by decide +kernel
theorem dJ9_floorMod_7cf53_19 : decode cJ9_floorMod_7cf53 19 = .ok (.ireturn, 1) := by decide +kernel
theorem dJ9_abs_0f7a4_0 : decode cJ9_abs_0f7a4 0 = .ok (.iload_n 0, 1) := by decide +kernel
theorem dJ9_abs_0f7a4_1 : decode cJ9_abs_0f7a4 1 = .ok (.ifCond .ge 8, 3) := by decide +kernel
theorem dJ9_abs_0f7a4_4 : decode cJ9_abs_0f7a4 4 = .ok (.iload_n 0, 1) := by decide +kernel
theorem dJ9_abs_0f7a4_5 : decode cJ9_abs_0f7a4 5 = .ok (.ineg, 1) := by decide +kernel
theorem dJ9_abs_0f7a4_6 : decode cJ9_abs_0f7a4 6 = .ok (.goto 4, 3) := by decide +kernel
theorem dJ9_abs_0f7a4_9 : decode cJ9_abs_0f7a4 9 = .ok (.iload_n 0, 1) := by decide +kernel
theorem dJ9_abs_0f7a4_10 : decode cJ9_abs_0f7a4 10 = .ok (.ireturn, 1) := by decide +kernel
theorem dJ9_max_7cf53_0 : decode cJ9_max_7cf53 0 = .ok (.iload_n 0, 1) := by decide +kernel
theorem dJ9_max_7cf53_1 : decode cJ9_max_7cf53 1 = .ok (.iload_n 1, 1) := by decide +kernel
theorem dJ9_max_7cf53_2 : decode cJ9_max_7cf53 2 = .ok (.if_icmp .lt 7, 3) := by decide +kernel
theorem dJ9_max_7cf53_5 : decode cJ9_max_7cf53 5 = .ok (.iload_n 0, 1) := by decide +kernel
theorem dJ9_max_7cf53_6 : decode cJ9_max_7cf53 6 = .ok (.goto 4, 3) := by decide +kernel
theorem dJ9_max_7cf53_9 : decode cJ9_max_7cf53 9 = .ok (.iload_n 1, 1) := by decide +kernel
theorem dJ9_max_7cf53_10 : decode cJ9_max_7cf53 10 = .ok (.ireturn, 1) := by decide +kernel
theorem dJ9_min_7cf53_0 : decode cJ9_min_7cf53 0 = .ok (.iload_n 0, 1) := by decide +kernel
theorem dJ9_min_7cf53_1 : decode cJ9_min_7cf53 1 = .ok (.iload_n 1, 1) := by decide +kernel
theorem dJ9_min_7cf53_2 : decode cJ9_min_7cf53 2 = .ok (.if_icmp .gt 7, 3) := by decide +kernel
theorem dJ9_min_7cf53_5 : decode cJ9_min_7cf53 5 = .ok (.iload_n 0, 1) := by decide +kernel
theorem dJ9_min_7cf53_6 : decode cJ9_min_7cf53 6 = .ok (.goto 4, 3) := by decide +kernel
theorem dJ9_min_7cf53_9 : decode cJ9_min_7cf53 9 = .ok (.iload_n 1, 1) := by decide +kernel
theorem dJ9_min_7cf53_10 : decode cJ9_min_7cf53 10 = .ok (.ireturn, 1) := by decide +kernel
