theorem dX2_init_0 : decode cX2_init 0 = .ok (.aload_n 0, 1) := by decide +kernel
theorem dX2_init_1 : decode cX2_init 1 = .ok (.invokespecial 3, 3) := by decide +kernel
theorem dX2_init_4 : decode cX2_init 4 = .ok (.aload_n 0, 1) := by decide +kernel
theorem dX2_init_5 : decode cX2_init 5 = .ok (.new 9, 3) := by decide +kernel
theorem dX2_init_8 : decode cX2_init 8 = .ok (.dup, 1) := by decide +kernel
theorem dX2_init_9 : decode cX2_init 9 = .ok (.invokespecial 11, 3) := by decide +kernel
theorem dX2_init_12 : decode cX2_init 12 = .ok (.putfield 12, 3) := by decide +kernel
theorem dX2_init_15 : decode cX2_init 15 = .ok (.aload_n 0, 1) := by decide +kernel
theorem dX2_init_16 : decode cX2_init 16 = .ok (.new 9, 3) := by decide +kernel
theorem dX2_init_19 : decode cX2_init 19 = .ok (.dup, 1) := by decide +kernel
theorem dX2_init_20 : decode cX2_init 20 = .ok (.invokespecial 11, 3) := by decide +kernel
theorem dX2_init_23 : decode cX2_init 23 = .ok (.putfield 16, 3) := by decide +kernel
theorem dX2_init_26 : decode cX2_init 26 = .ok (.aload_n 0, 1) := by decide +kernel
theorem dX2_init_27 : decode cX2_init 27 = .ok (.new 9, 3) := by decide +kernel
theorem dX2_init_30 : decode cX2_init 30 = .ok (.dup, 1) := by decide +kernel
theorem dX2_init_31 : decode cX2_init 31 = .ok (.invokespecial 11, 3) := by decide +kernel
theorem dX2_init_34 : decode cX2_init 34 = .ok (.putfield 19, 3) := by decide +kernel
theorem dX2_init_37 : decode cX2_init 37 = .ok (.aload_n 0, 1) := by decide +kernel
theorem dX2_init_38 : decode cX2_init 38 = .ok (.new 9, 3) := by decide +kernel
theorem dX2_init_41 : decode cX2_init 41 = .ok (.dup, 1) := by decide +kernel
theorem dX2_init_42 : decode cX2_init 42 = .ok (.invokespecial 11, 3) := by decide +kernel
theorem dX2_init_45 : decode cX2_init 45 = .ok (.putfield 22, 3) := by decide +kernel
theorem dX2_init_48 : decode cX2_init 48 = .ok (.aload_n 0, 1) := by decide +kernel
theorem dX2_init_49 : decode cX2_init 49 = .ok (.new 25, 3) := by decide +kernel
theorem dX2_init_52 : decode cX2_init 52 = .ok (.dup, 1) := by decide +kernel
theorem dX2_init_53 : decode cX2_init 53 = .ok (.invokespecial 27, 3) := by decide +kernel
theorem dX2_init_56 : decode cX2_init 56 = .ok (.putfield 28, 3) := by decide +kernel
theorem dX2_init_59 : decode cX2_init 59 = .ok (.aload_n 0, 1) := by decide +kernel
theorem dX2_init_60 : decode cX2_init 60 = .ok (.bipush 6, 2) := by decide +kernel
theorem dX2_init_62 : decode cX2_init 62 = .ok (.newarray .int, 2) := by decide +kernel
theorem dX2_init_64 : decode cX2_init 64 = .ok (.putfield 32, 3) := by decide +kernel
theorem dX2_init_67 : decode cX2_init 67 = .ok (.aload_n 0, 1) := by decide +kernel
theorem dX2_init_68 : decode cX2_init 68 = .ok (.bipush 6, 2) := by decide +kernel
theorem dX2_init_70 : decode cX2_init 70 = .ok (.newarray .int, 2) := by decide +kernel
theorem dX2_init_72 : decode cX2_init 72 = .ok (.putfield 36, 3) := by decide +kernel
theorem dX2_init_75 : decode cX2_init 75 = .ok (.aload_n 0, 1) := by decide +kernel
theorem dX2_init_76 : decode cX2_init 76 = .ok (.bipush 6, 2) := by decide +kernel
theorem dX2_init_78 : decode cX2_init 78 = .ok (.newarray .int, 2) := by decide +kernel
theorem dX2_init_80 : decode cX2_init 80 = .ok (.putfield 39, 3) := by decide +kernel
theorem dX2_init_83 : decode cX2_init 83 = .ok (.aload_n 0, 1) := by decide +kernel
theorem dX2_init_84 : decode cX2_init 84 = .ok (.bipush 7, 2) := by decide +kernel
theorem dX2_init_86 : decode cX2_init 86 = .ok (.newarray .int, 2) := by decide +kernel
theorem dX2_init_88 : decode cX2_init 88 = .ok (.putfield 42, 3) := by decide +kernel
theorem dX2_init_91 : decode cX2_init 91 = .ok (.return_, 1) := by decide +kernel
theorem dX2_letter_0 : decode cX2_letter 0 = .ok (.iconst 1, 1) := by decide +kernel
theorem dX2_letter_1 : decode cX2_letter 1 = .ok (.iload_n 1, 1) := by decide +kernel
theorem dX2_letter_2 : decode cX2_letter 2 = .ok (.iconst 0, 1) := by decide +kernel
theorem dX2_letter_3 : decode cX2_letter 3 = .ok (.sipush 255, 3) := by decide +kernel
theorem dX2_letter_6 : decode cX2_letter 6 = .ok (.invokestatic 45, 3) := by decide +kernel
theorem dX2_letter_9 : decode cX2_letter 9 = .ok (.istore_n 2, 1) := by decide +kernel
theorem dX2_letter_10 : decode cX2_letter 10 = .ok (.iload_n 2, 1) := by decide +kernel
theorem dX2_letter_11 : decode cX2_letter 11 = .ok (.ifCond .ne 16, 3) := by decide +kernel
theorem dX2_letter_14 : decode cX2_letter 14 = .ok (.aload_n 0, 1) := by decide +kernel
theorem dX2_letter_15 : decode cX2_letter 15 = .ok (.getfield 28, 3) := by decide +kernel
theorem dX2_letter_18 : decode cX2_letter 18 = .ok (.invokevirtual 49, 3) := by decide +kernel
theorem dX2_letter_21 : decode cX2_letter 21 = .ok (.ifCond .eq 6, 3) := by decide +kernel
theorem dX2_letter_24 : decode cX2_letter 24 = .ok (.bipush (-6), 2) := by decide +kernel
theorem dX2_letter_26 : decode cX2_letter 26 = .ok (.istore_n 2, 1) := by decide +kernel
theorem dX2_letter_27 : decode cX2_letter 27 = .ok (.iload_n 2, 1) := by decide +kernel
theorem dX2_letter_28 : decode cX2_letter 28 = .ok (.ifCond .eq 9, 3) := by decide +kernel
theorem dX2_letter_31 : decode cX2_letter 31 = .ok (.aload_n 0, 1) := by decide +kernel
theorem dX2_letter_32 : decode cX2_letter 32 = .ok (.iload_n 2, 1) := by decide +kernel
theorem dX2_letter_33 : decode cX2_letter 33 = .ok (.invokevirtual 53, 3) := by decide +kernel
theorem dX2_letter_36 : decode cX2_letter 36 = .ok (.ireturn, 1) := by decide +kernel
theorem dX2_letter_37 : decode cX2_letter 37 = .ok (.aload_n 0, 1) := by decide +kernel
theorem dX2_letter_38 : decode cX2_letter 38 = .ok (.getfield 28, 3) := by decide +kernel
theorem dX2_letter_41 : decode cX2_letter 41 = .ok (.iload_n 1, 1) := by decide +kernel
theorem dX2_letter_42 : decode cX2_letter 42 = .ok (.i2c, 1) := by decide +kernel
theorem dX2_letter_43 : decode cX2_letter 43 = .ok (.invokevirtual 57, 3) := by decide +kernel
theorem dX2_letter_46 : decode cX2_letter 46 = .ok (.aload_n 0, 1) := by decide +kernel
theorem dX2_letter_47 : decode cX2_letter 47 = .ok (.getfield 28, 3) := by decide +kernel
theorem dX2_letter_50 : decode cX2_letter 50 = .ok (.getfield 61, 3) := by decide +kernel
theorem dX2_letter_53 : decode cX2_letter 53 = .ok (.ireturn, 1) := by decide +kernel
theorem dX2_town_0 : decode cX2_town 0 = .ok (.aload_n 0, 1) := by decide +kernel
theorem dX2_town_1 : decode cX2_town 1 = .ok (.invokevirtual 65, 3) := by decide +kernel
theorem dX2_town_4 : decode cX2_town 4 = .ok (.istore_n 1, 1) := by decide +kernel
theorem dX2_town_5 : decode cX2_town 5 = .ok (.aload_n 0, 1) := by decide +kernel
theorem dX2_town_6 : decode cX2_town 6 = .ok (.getfield 28, 3) := by decide +kernel
theorem dX2_town_9 : decode cX2_town 9 = .ok (.iconst 0, 1) := by decide +kernel
theorem dX2_town_10 : decode cX2_town 10 = .ok (.putfield 61, 3) := by decide +kernel
theorem dX2_town_13 : decode cX2_town 13 = .ok (.iload_n 1, 1) := by decide +kernel
theorem dX2_town_14 : decode cX2_town 14 = .ok (.ireturn, 1) := by decide +kernel
theorem dX2_street_0 : decode cX2_street 0 = .ok (.aload_n 0, 1) := by decide +kernel
theorem dX2_street_1 : decode cX2_street 1 = .ok (.getfield 12, 3) := by decide +kernel
theorem dX2_street_4 : decode cX2_street 4 = .ok (.iload_n 1, 1) := by decide +kernel
theorem dX2_street_5 : decode cX2_street 5 = .ok (.invokevirtual 69, 3) := by decide +kernel
theorem dX2_street_8 : decode cX2_street 8 = .ok (.ifCond .ne 9, 3) := by decide +kernel
theorem dX2_street_11 : decode cX2_street 11 = .ok (.aload_n 0, 1) := by decide +kernel
theorem dX2_street_12 : decode cX2_street 12 = .ok (.iconst (-1), 1) := by decide +kernel
theorem dX2_street_13 : decode cX2_street 13 = .ok (.invokevirtual 53, 3) := by decide +kernel
theorem dX2_street_16 : decode cX2_street 16 = .ok (.ireturn, 1) := by decide +kernel
theorem dX2_street_17 : decode cX2_street 17 = .ok (.iload_n 2, 1) := by decide +kernel
theorem dX2_street_18 : decode cX2_street 18 = .ok (.tableswitch 125 0 7 #[46, 56, 66, 76, 86, 96, 106, 116], 46) := by decide +kernel
theorem dX2_street_64 : decode cX2_street 64 = .ok (.aload_n 0, 1) := by decide +kernel
theorem dX2_street_65 : decode cX2_street 65 = .ok (.getfield 12, 3) := by decide +kernel
theorem dX2_street_68 : decode cX2_street 68 = .ok (.getfield 73, 3) := by decide +kernel
theorem dX2_street_71 : decode cX2_street 71 = .ok (.iload_n 1, 1) := by decide +kernel
theorem dX2_street_72 : decode cX2_street 72 = .ok (.iaload, 1) := by decide +kernel
theorem dX2_street_73 : decode cX2_street 73 = .ok (.ireturn, 1) := by decide +kernel
theorem dX2_street_74 : decode cX2_street 74 = .ok (.aload_n 0, 1) := by decide +kernel
theorem dX2_street_75 : decode cX2_street 75 = .ok (.getfield 12, 3) := by decide +kernel
theorem dX2_street_78 : decode cX2_street 78 = .ok (.getfield 76, 3) := by decide +kernel
theorem dX2_street_81 : decode cX2_street 81 = .ok (.iload_n 1, 1) := by decide +kernel
theorem dX2_street_82 : decode cX2_street 82 = .ok (.iaload, 1) := by decide +kernel
theorem dX2_street_83 : decode cX2_street 83 = .ok (.ireturn, 1) := by decide +kernel
theorem dX2_street_84 : decode cX2_street 84 = .ok (.aload_n 0, 1) := by decide +kernel
theorem dX2_street_85 : decode cX2_street 85 = .ok (.getfield 12, 3) := by decide +kernel
theorem dX2_street_88 : decode cX2_street 88 = .ok (.getfield 79, 3) := by decide +kernel
theorem dX2_street_91 : decode cX2_street 91 = .ok (.iload_n 1, 1) := by decide +kernel
theorem dX2_street_92 : decode cX2_street 92 = .ok (.iaload, 1) := by decide +kernel
theorem dX2_street_93 : decode cX2_street 93 = .ok (.ireturn, 1) := by decide +kernel
theorem dX2_street_94 : decode cX2_street 94 = .ok (.aload_n 0, 1) := by decide +kernel
theorem dX2_street_95 : decode cX2_street 95 = .ok (.getfield 12, 3) := by decide +kernel
theorem dX2_street_98 : decode cX2_street 98 = .ok (.getfield 82, 3) := by decide +kernel
theorem dX2_street_101 : decode cX2_street 101 = .ok (.iload_n 1, 1) := by decide +kernel
theorem dX2_street_102 : decode cX2_street 102 = .ok (.iaload, 1) := by decide +kernel
theorem dX2_street_103 : decode cX2_street 103 = .ok (.ireturn, 1) := by decide +kernel
theorem dX2_street_104 : decode cX2_street 104 = .ok (.aload_n 0, 1) := by decide +kernel
theorem dX2_street_105 : decode cX2_street 105 = .ok (.getfield 12, 3) := by decide +kernel
theorem dX2_street_108 : decode cX2_street 108 = .ok (.getfield 85, 3) := by decide +kernel
theorem dX2_street_111 : decode cX2_street 111 = .ok (.iload_n 1, 1) := by decide +kernel
theorem dX2_street_112 : decode cX2_street 112 = .ok (.iaload, 1) := by decide +kernel
theorem dX2_street_113 : decode cX2_street 113 = .ok (.ireturn, 1) := by decide +kernel
theorem dX2_street_114 : decode cX2_street 114 = .ok (.aload_n 0, 1) := by decide +kernel
theorem dX2_street_115 : decode cX2_street 115 = .ok (.getfield 12, 3) := by decide +kernel
theorem dX2_street_118 : decode cX2_street 118 = .ok (.getfield 88, 3) := by decide +kernel
theorem dX2_street_121 : decode cX2_street 121 = .ok (.iload_n 1, 1) := by decide +kernel
theorem dX2_street_122 : decode cX2_street 122 = .ok (.iaload, 1) := by decide +kernel
theorem dX2_street_123 : decode cX2_street 123 = .ok (.ireturn, 1) := by decide +kernel
theorem dX2_street_124 : decode cX2_street 124 = .ok (.aload_n 0, 1) := by decide +kernel
theorem dX2_street_125 : decode cX2_street 125 = .ok (.getfield 12, 3) := by decide +kernel
theorem dX2_street_128 : decode cX2_street 128 = .ok (.getfield 91, 3) := by decide +kernel
theorem dX2_street_131 : decode cX2_street 131 = .ok (.iload_n 1, 1) := by decide +kernel
theorem dX2_street_132 : decode cX2_street 132 = .ok (.iaload, 1) := by decide +kernel
theorem dX2_street_133 : decode cX2_street 133 = .ok (.ireturn, 1) := by decide +kernel
theorem dX2_street_134 : decode cX2_street 134 = .ok (.aload_n 0, 1) := by decide +kernel
theorem dX2_street_135 : decode cX2_street 135 = .ok (.getfield 12, 3) := by decide +kernel
theorem dX2_street_138 : decode cX2_street 138 = .ok (.iload_n 1, 1) := by decide +kernel
theorem dX2_street_139 : decode cX2_street 139 = .ok (.invokevirtual 94, 3) := by decide +kernel
theorem dX2_street_142 : decode cX2_street 142 = .ok (.ireturn, 1) := by decide +kernel
theorem dX2_street_143 : decode cX2_street 143 = .ok (.aload_n 0, 1) := by decide +kernel
theorem dX2_street_144 : decode cX2_street 144 = .ok (.bipush (-2), 2) := by decide +kernel
theorem dX2_street_146 : decode cX2_street 146 = .ok (.invokevirtual 53, 3) := by decide +kernel
theorem dX2_street_149 : decode cX2_street 149 = .ok (.ireturn, 1) := by decide +kernel
theorem dX2_mends_0 : decode cX2_mends 0 = .ok (.aload_n 0, 1) := by decide +kernel
theorem dX2_mends_1 : decode cX2_mends 1 = .ok (.getfield 12, 3) := by decide +kernel
theorem dX2_mends_4 : decode cX2_mends 4 = .ok (.iload_n 1, 1) := by decide +kernel
theorem dX2_mends_5 : decode cX2_mends 5 = .ok (.invokevirtual 69, 3) := by decide +kernel
theorem dX2_mends_8 : decode cX2_mends 8 = .ok (.ifCond .eq 14, 3) := by decide +kernel
theorem dX2_mends_11 : decode cX2_mends 11 = .ok (.aload_n 0, 1) := by decide +kernel
theorem dX2_mends_12 : decode cX2_mends 12 = .ok (.getfield 12, 3) := by decide +kernel
theorem dX2_mends_15 : decode cX2_mends 15 = .ok (.iload_n 2, 1) := by decide +kernel
theorem dX2_mends_16 : decode cX2_mends 16 = .ok (.invokevirtual 69, 3) := by decide +kernel
theorem dX2_mends_19 : decode cX2_mends 19 = .ok (.ifCond .ne 9, 3) := by decide +kernel
theorem dX2_mends_22 : decode cX2_mends 22 = .ok (.aload_n 0, 1) := by decide +kernel
theorem dX2_mends_23 : decode cX2_mends 23 = .ok (.iconst (-1), 1) := by decide +kernel
theorem dX2_mends_24 : decode cX2_mends 24 = .ok (.invokevirtual 53, 3) := by decide +kernel
theorem dX2_mends_27 : decode cX2_mends 27 = .ok (.ireturn, 1) := by decide +kernel
theorem dX2_mends_28 : decode cX2_mends 28 = .ok (.aload_n 0, 1) := by decide +kernel
theorem dX2_mends_29 : decode cX2_mends 29 = .ok (.getfield 12, 3) := by decide +kernel
theorem dX2_mends_32 : decode cX2_mends 32 = .ok (.getfield 88, 3) := by decide +kernel
theorem dX2_mends_35 : decode cX2_mends 35 = .ok (.iload_n 1, 1) := by decide +kernel
theorem dX2_mends_36 : decode cX2_mends 36 = .ok (.iaload, 1) := by decide +kernel
theorem dX2_mends_37 : decode cX2_mends 37 = .ok (.istore_n 3, 1) := by decide +kernel
theorem dX2_mends_38 : decode cX2_mends 38 = .ok (.aload_n 0, 1) := by decide +kernel
theorem dX2_mends_39 : decode cX2_mends 39 = .ok (.getfield 12, 3) := by decide +kernel
theorem dX2_mends_42 : decode cX2_mends 42 = .ok (.getfield 88, 3) := by decide +kernel
theorem dX2_mends_45 : decode cX2_mends 45 = .ok (.iload_n 1, 1) := by decide +kernel
theorem dX2_mends_46 : decode cX2_mends 46 = .ok (.iload_n 2, 1) := by decide +kernel
theorem dX2_mends_47 : decode cX2_mends 47 = .ok (.iastore, 1) := by decide +kernel
theorem dX2_mends_48 : decode cX2_mends 48 = .ok (.iload_n 3, 1) := by decide +kernel
theorem dX2_mends_49 : decode cX2_mends 49 = .ok (.ireturn, 1) := by decide +kernel
theorem dX2_pence_0 : decode cX2_pence 0 = .ok (.aload_n 0, 1) := by decide +kernel
theorem dX2_pence_1 : decode cX2_pence 1 = .ok (.getfield 12, 3) := by decide +kernel
theorem dX2_pence_4 : decode cX2_pence 4 = .ok (.iload_n 1, 1) := by decide +kernel
theorem dX2_pence_5 : decode cX2_pence 5 = .ok (.invokevirtual 69, 3) := by decide +kernel
theorem dX2_pence_8 : decode cX2_pence 8 = .ok (.iload_n 2, 1) := by decide +kernel
theorem dX2_pence_9 : decode cX2_pence 9 = .ok (.iconst 0, 1) := by decide +kernel
theorem dX2_pence_10 : decode cX2_pence 10 = .ok (.bipush 99, 2) := by decide +kernel
theorem dX2_pence_12 : decode cX2_pence 12 = .ok (.invokestatic 45, 3) := by decide +kernel
theorem dX2_pence_15 : decode cX2_pence 15 = .ok (.istore_n 3, 1) := by decide +kernel
theorem dX2_pence_16 : decode cX2_pence 16 = .ok (.iload_n 3, 1) := by decide +kernel
theorem dX2_pence_17 : decode cX2_pence 17 = .ok (.ifCond .eq 9, 3) := by decide +kernel
theorem dX2_pence_20 : decode cX2_pence 20 = .ok (.aload_n 0, 1) := by decide +kernel
theorem dX2_pence_21 : decode cX2_pence 21 = .ok (.iload_n 3, 1) := by decide +kernel
theorem dX2_pence_22 : decode cX2_pence 22 = .ok (.invokevirtual 53, 3) := by decide +kernel
theorem dX2_pence_25 : decode cX2_pence 25 = .ok (.ireturn, 1) := by decide +kernel
theorem dX2_pence_26 : decode cX2_pence 26 = .ok (.aload_n 0, 1) := by decide +kernel
theorem dX2_pence_27 : decode cX2_pence 27 = .ok (.getfield 12, 3) := by decide +kernel
theorem dX2_pence_30 : decode cX2_pence 30 = .ok (.getfield 85, 3) := by decide +kernel
theorem dX2_pence_33 : decode cX2_pence 33 = .ok (.iload_n 1, 1) := by decide +kernel
theorem dX2_pence_34 : decode cX2_pence 34 = .ok (.iaload, 1) := by decide +kernel
theorem dX2_pence_35 : decode cX2_pence 35 = .ok (.istore 4, 2) := by decide +kernel
theorem dX2_pence_37 : decode cX2_pence 37 = .ok (.aload_n 0, 1) := by decide +kernel
theorem dX2_pence_38 : decode cX2_pence 38 = .ok (.getfield 12, 3) := by decide +kernel
theorem dX2_pence_41 : decode cX2_pence 41 = .ok (.getfield 85, 3) := by decide +kernel
theorem dX2_pence_44 : decode cX2_pence 44 = .ok (.iload_n 1, 1) := by decide +kernel
theorem dX2_pence_45 : decode cX2_pence 45 = .ok (.iload_n 2, 1) := by decide +kernel
theorem dX2_pence_46 : decode cX2_pence 46 = .ok (.iastore, 1) := by decide +kernel
theorem dX2_pence_47 : decode cX2_pence 47 = .ok (.iload 4, 2) := by decide +kernel
theorem dX2_pence_49 : decode cX2_pence 49 = .ok (.ireturn, 1) := by decide +kernel
theorem dX2_hands_0 : decode cX2_hands 0 = .ok (.aload_n 0, 1) := by decide +kernel
theorem dX2_hands_1 : decode cX2_hands 1 = .ok (.getfield 12, 3) := by decide +kernel
theorem dX2_hands_4 : decode cX2_hands 4 = .ok (.iload_n 1, 1) := by decide +kernel
theorem dX2_hands_5 : decode cX2_hands 5 = .ok (.invokevirtual 69, 3) := by decide +kernel
theorem dX2_hands_8 : decode cX2_hands 8 = .ok (.iload_n 2, 1) := by decide +kernel
theorem dX2_hands_9 : decode cX2_hands 9 = .ok (.iconst 0, 1) := by decide +kernel
theorem dX2_hands_10 : decode cX2_hands 10 = .ok (.iconst 4, 1) := by decide +kernel
theorem dX2_hands_11 : decode cX2_hands 11 = .ok (.invokestatic 45, 3) := by decide +kernel
theorem dX2_hands_14 : decode cX2_hands 14 = .ok (.istore_n 3, 1) := by decide +kernel
theorem dX2_hands_15 : decode cX2_hands 15 = .ok (.iload_n 3, 1) := by decide +kernel
theorem dX2_hands_16 : decode cX2_hands 16 = .ok (.ifCond .eq 9, 3) := by decide +kernel
theorem dX2_hands_19 : decode cX2_hands 19 = .ok (.aload_n 0, 1) := by decide +kernel
theorem dX2_hands_20 : decode cX2_hands 20 = .ok (.iload_n 3, 1) := by decide +kernel
theorem dX2_hands_21 : decode cX2_hands 21 = .ok (.invokevirtual 53, 3) := by decide +kernel
theorem dX2_hands_24 : decode cX2_hands 24 = .ok (.ireturn, 1) := by decide +kernel
theorem dX2_hands_25 : decode cX2_hands 25 = .ok (.aload_n 0, 1) := by decide +kernel
theorem dX2_hands_26 : decode cX2_hands 26 = .ok (.getfield 12, 3) := by decide +kernel
theorem dX2_hands_29 : decode cX2_hands 29 = .ok (.getfield 82, 3) := by decide +kernel
theorem dX2_hands_32 : decode cX2_hands 32 = .ok (.iload_n 1, 1) := by decide +kernel
theorem dX2_hands_33 : decode cX2_hands 33 = .ok (.iaload, 1) := by decide +kernel
theorem dX2_hands_34 : decode cX2_hands 34 = .ok (.istore 4, 2) := by decide +kernel
theorem dX2_hands_36 : decode cX2_hands 36 = .ok (.aload_n 0, 1) := by decide +kernel
theorem dX2_hands_37 : decode cX2_hands 37 = .ok (.getfield 12, 3) := by decide +kernel
theorem dX2_hands_40 : decode cX2_hands 40 = .ok (.getfield 82, 3) := by decide +kernel
theorem dX2_hands_43 : decode cX2_hands 43 = .ok (.iload_n 1, 1) := by decide +kernel
theorem dX2_hands_44 : decode cX2_hands 44 = .ok (.iload_n 2, 1) := by decide +kernel
theorem dX2_hands_45 : decode cX2_hands 45 = .ok (.iastore, 1) := by decide +kernel
theorem dX2_hands_46 : decode cX2_hands 46 = .ok (.iload 4, 2) := by decide +kernel
theorem dX2_hands_48 : decode cX2_hands 48 = .ok (.ireturn, 1) := by decide +kernel
theorem dX2_year_0 : decode cX2_year 0 = .ok (.aload_n 0, 1) := by decide +kernel
theorem dX2_year_1 : decode cX2_year 1 = .ok (.getfield 12, 3) := by decide +kernel
theorem dX2_year_4 : decode cX2_year 4 = .ok (.getfield 97, 3) := by decide +kernel
theorem dX2_year_7 : decode cX2_year 7 = .ok (.sipush 999, 3) := by decide +kernel
theorem dX2_year_10 : decode cX2_year 10 = .ok (.if_icmp .lt 10, 3) := by decide +kernel
theorem dX2_year_13 : decode cX2_year 13 = .ok (.aload_n 0, 1) := by decide +kernel
theorem dX2_year_14 : decode cX2_year 14 = .ok (.bipush (-6), 2) := by decide +kernel
theorem dX2_year_16 : decode cX2_year 16 = .ok (.invokevirtual 53, 3) := by decide +kernel
theorem dX2_year_19 : decode cX2_year 19 = .ok (.ireturn, 1) := by decide +kernel
theorem dX2_year_20 : decode cX2_year 20 = .ok (.aload_n 0, 1) := by decide +kernel
theorem dX2_year_21 : decode cX2_year 21 = .ok (.getfield 12, 3) := by decide +kernel
theorem dX2_year_24 : decode cX2_year 24 = .ok (.invokevirtual 100, 3) := by decide +kernel
theorem dX2_year_27 : decode cX2_year 27 = .ok (.aload_n 0, 1) := by decide +kernel
theorem dX2_year_28 : decode cX2_year 28 = .ok (.getfield 12, 3) := by decide +kernel
theorem dX2_year_31 : decode cX2_year 31 = .ok (.invokevirtual 103, 3) := by decide +kernel
theorem dX2_year_34 : decode cX2_year 34 = .ok (.ireturn, 1) := by decide +kernel
theorem dX2_mud_0 : decode cX2_mud 0 = .ok (.iload_n 1, 1) := by decide +kernel
theorem dX2_mud_1 : decode cX2_mud 1 = .ok (.iconst (-1), 1) := by decide +kernel
theorem dX2_mud_2 : decode cX2_mud 2 = .ok (.if_icmp .eq 14, 3) := by decide +kernel
theorem dX2_mud_5 : decode cX2_mud 5 = .ok (.aload_n 0, 1) := by decide +kernel
theorem dX2_mud_6 : decode cX2_mud 6 = .ok (.getfield 12, 3) := by decide +kernel
theorem dX2_mud_9 : decode cX2_mud 9 = .ok (.iload_n 1, 1) := by decide +kernel
theorem dX2_mud_10 : decode cX2_mud 10 = .ok (.invokevirtual 69, 3) := by decide +kernel
theorem dX2_mud_13 : decode cX2_mud 13 = .ok (.ifCond .eq 7, 3) := by decide +kernel
theorem dX2_mud_16 : decode cX2_mud 16 = .ok (.iconst 1, 1) := by decide +kernel
theorem dX2_mud_17 : decode cX2_mud 17 = .ok (.goto 4, 3) := by decide +kernel
theorem dX2_mud_20 : decode cX2_mud 20 = .ok (.iconst 0, 1) := by decide +kernel
theorem dX2_mud_21 : decode cX2_mud 21 = .ok (.iload_n 2, 1) := by decide +kernel
theorem dX2_mud_22 : decode cX2_mud 22 = .ok (.iconst 0, 1) := by decide +kernel
theorem dX2_mud_23 : decode cX2_mud 23 = .ok (.bipush 60, 2) := by decide +kernel
theorem dX2_mud_25 : decode cX2_mud 25 = .ok (.invokestatic 45, 3) := by decide +kernel
theorem dX2_mud_28 : decode cX2_mud 28 = .ok (.istore_n 3, 1) := by decide +kernel
theorem dX2_mud_29 : decode cX2_mud 29 = .ok (.iload_n 3, 1) := by decide +kernel
theorem dX2_mud_30 : decode cX2_mud 30 = .ok (.ifCond .eq 9, 3) := by decide +kernel
theorem dX2_mud_33 : decode cX2_mud 33 = .ok (.aload_n 0, 1) := by decide +kernel
theorem dX2_mud_34 : decode cX2_mud 34 = .ok (.iload_n 3, 1) := by decide +kernel
theorem dX2_mud_35 : decode cX2_mud 35 = .ok (.invokevirtual 53, 3) := by decide +kernel
theorem dX2_mud_38 : decode cX2_mud 38 = .ok (.ireturn, 1) := by decide +kernel
theorem dX2_mud_39 : decode cX2_mud 39 = .ok (.aload_n 0, 1) := by decide +kernel
theorem dX2_mud_40 : decode cX2_mud 40 = .ok (.getfield 19, 3) := by decide +kernel
theorem dX2_mud_43 : decode cX2_mud 43 = .ok (.aload_n 0, 1) := by decide +kernel
theorem dX2_mud_44 : decode cX2_mud 44 = .ok (.getfield 12, 3) := by decide +kernel
theorem dX2_mud_47 : decode cX2_mud 47 = .ok (.invokevirtual 106, 3) := by decide +kernel
theorem dX2_mud_50 : decode cX2_mud 50 = .ok (.aload_n 0, 1) := by decide +kernel
theorem dX2_mud_51 : decode cX2_mud 51 = .ok (.getfield 19, 3) := by decide +kernel
theorem dX2_mud_54 : decode cX2_mud 54 = .ok (.iload_n 2, 1) := by decide +kernel
theorem dX2_mud_55 : decode cX2_mud 55 = .ok (.invokevirtual 110, 3) := by decide +kernel
theorem dX2_mud_58 : decode cX2_mud 58 = .ok (.istore 4, 2) := by decide +kernel
theorem dX2_mud_60 : decode cX2_mud 60 = .ok (.aload_n 0, 1) := by decide +kernel
theorem dX2_mud_61 : decode cX2_mud 61 = .ok (.getfield 12, 3) := by decide +kernel
theorem dX2_mud_64 : decode cX2_mud 64 = .ok (.iload_n 1, 1) := by decide +kernel
theorem dX2_mud_65 : decode cX2_mud 65 = .ok (.invokevirtual 69, 3) := by decide +kernel
theorem dX2_mud_68 : decode cX2_mud 68 = .ok (.ifCond .eq 15, 3) := by decide +kernel
theorem dX2_mud_71 : decode cX2_mud 71 = .ok (.aload_n 0, 1) := by decide +kernel
theorem dX2_mud_72 : decode cX2_mud 72 = .ok (.getfield 19, 3) := by decide +kernel
theorem dX2_mud_75 : decode cX2_mud 75 = .ok (.getfield 76, 3) := by decide +kernel
theorem dX2_mud_78 : decode cX2_mud 78 = .ok (.iload_n 1, 1) := by decide +kernel
theorem dX2_mud_79 : decode cX2_mud 79 = .ok (.iaload, 1) := by decide +kernel
theorem dX2_mud_80 : decode cX2_mud 80 = .ok (.goto 5, 3) := by decide +kernel
theorem dX2_mud_83 : decode cX2_mud 83 = .ok (.iload 4, 2) := by decide +kernel
theorem dX2_mud_85 : decode cX2_mud 85 = .ok (.ireturn, 1) := by decide +kernel
theorem dX2_worst_0 : decode cX2_worst 0 = .ok (.iconst 1, 1) := by decide +kernel
theorem dX2_worst_1 : decode cX2_worst 1 = .ok (.iload_n 1, 1) := by decide +kernel
theorem dX2_worst_2 : decode cX2_worst 2 = .ok (.iconst 0, 1) := by decide +kernel
theorem dX2_worst_3 : decode cX2_worst 3 = .ok (.bipush 60, 2) := by decide +kernel
theorem dX2_worst_5 : decode cX2_worst 5 = .ok (.invokestatic 45, 3) := by decide +kernel
theorem dX2_worst_8 : decode cX2_worst 8 = .ok (.istore_n 3, 1) := by decide +kernel
theorem dX2_worst_9 : decode cX2_worst 9 = .ok (.iload_n 3, 1) := by decide +kernel
theorem dX2_worst_10 : decode cX2_worst 10 = .ok (.ifCond .ne 15, 3) := by decide +kernel
theorem dX2_worst_13 : decode cX2_worst 13 = .ok (.iload_n 2, 1) := by decide +kernel
theorem dX2_worst_14 : decode cX2_worst 14 = .ok (.ifCond .eq 11, 3) := by decide +kernel
theorem dX2_worst_17 : decode cX2_worst 17 = .ok (.iload_n 2, 1) := by decide +kernel
theorem dX2_worst_18 : decode cX2_worst 18 = .ok (.iconst 1, 1) := by decide +kernel
theorem dX2_worst_19 : decode cX2_worst 19 = .ok (.if_icmp .eq 6, 3) := by decide +kernel
theorem dX2_worst_22 : decode cX2_worst 22 = .ok (.bipush (-2), 2) := by decide +kernel
theorem dX2_worst_24 : decode cX2_worst 24 = .ok (.istore_n 3, 1) := by decide +kernel
theorem dX2_worst_25 : decode cX2_worst 25 = .ok (.iload_n 3, 1) := by decide +kernel
theorem dX2_worst_26 : decode cX2_worst 26 = .ok (.ifCond .eq 9, 3) := by decide +kernel
theorem dX2_worst_29 : decode cX2_worst 29 = .ok (.aload_n 0, 1) := by decide +kernel
theorem dX2_worst_30 : decode cX2_worst 30 = .ok (.iload_n 3, 1) := by decide +kernel
theorem dX2_worst_31 : decode cX2_worst 31 = .ok (.invokevirtual 53, 3) := by decide +kernel
theorem dX2_worst_34 : decode cX2_worst 34 = .ok (.ireturn, 1) := by decide +kernel
theorem dX2_worst_35 : decode cX2_worst 35 = .ok (.aload_n 0, 1) := by decide +kernel
theorem dX2_worst_36 : decode cX2_worst 36 = .ok (.getfield 19, 3) := by decide +kernel
theorem dX2_worst_39 : decode cX2_worst 39 = .ok (.aload_n 0, 1) := by decide +kernel
theorem dX2_worst_40 : decode cX2_worst 40 = .ok (.getfield 12, 3) := by decide +kernel
theorem dX2_worst_43 : decode cX2_worst 43 = .ok (.invokevirtual 106, 3) := by decide +kernel
theorem dX2_worst_46 : decode cX2_worst 46 = .ok (.aload_n 0, 1) := by decide +kernel
theorem dX2_worst_47 : decode cX2_worst 47 = .ok (.getfield 19, 3) := by decide +kernel
theorem dX2_worst_50 : decode cX2_worst 50 = .ok (.iload_n 1, 1) := by decide +kernel
theorem dX2_worst_51 : decode cX2_worst 51 = .ok (.invokevirtual 110, 3) := by decide +kernel
theorem dX2_worst_54 : decode cX2_worst 54 = .ok (.pop, 1) := by decide +kernel
theorem dX2_worst_55 : decode cX2_worst 55 = .ok (.aload_n 0, 1) := by decide +kernel
theorem dX2_worst_56 : decode cX2_worst 56 = .ok (.getfield 19, 3) := by decide +kernel
theorem dX2_worst_59 : decode cX2_worst 59 = .ok (.invokevirtual 113, 3) := by decide +kernel
theorem dX2_worst_62 : decode cX2_worst 62 = .ok (.istore 4, 2) := by decide +kernel
theorem dX2_worst_64 : decode cX2_worst 64 = .ok (.iload_n 2, 1) := by decide +kernel
theorem dX2_worst_65 : decode cX2_worst 65 = .ok (.iconst 1, 1) := by decide +kernel
theorem dX2_worst_66 : decode cX2_worst 66 = .ok (.if_icmp .ne 17, 3) := by decide +kernel
theorem dX2_worst_69 : decode cX2_worst 69 = .ok (.iload 4, 2) := by decide +kernel
theorem dX2_worst_71 : decode cX2_worst 71 = .ok (.iconst (-1), 1) := by decide +kernel
theorem dX2_worst_72 : decode cX2_worst 72 = .ok (.if_icmp .ne 8, 3) := by decide +kernel
theorem dX2_worst_75 : decode cX2_worst 75 = .ok (.bipush (-9), 2) := by decide +kernel
theorem dX2_worst_77 : decode cX2_worst 77 = .ok (.goto 5, 3) := by decide +kernel
theorem dX2_worst_80 : decode cX2_worst 80 = .ok (.iload 4, 2) := by decide +kernel
theorem dX2_worst_82 : decode cX2_worst 82 = .ok (.ireturn, 1) := by decide +kernel
theorem dX2_worst_83 : decode cX2_worst 83 = .ok (.aload_n 0, 1) := by decide +kernel
theorem dX2_worst_84 : decode cX2_worst 84 = .ok (.getfield 19, 3) := by decide +kernel
theorem dX2_worst_87 : decode cX2_worst 87 = .ok (.iload 4, 2) := by decide +kernel
theorem dX2_worst_89 : decode cX2_worst 89 = .ok (.invokevirtual 69, 3) := by decide +kernel
theorem dX2_worst_92 : decode cX2_worst 92 = .ok (.ifCond .eq 16, 3) := by decide +kernel
theorem dX2_worst_95 : decode cX2_worst 95 = .ok (.aload_n 0, 1) := by decide +kernel
theorem dX2_worst_96 : decode cX2_worst 96 = .ok (.getfield 19, 3) := by decide +kernel
theorem dX2_worst_99 : decode cX2_worst 99 = .ok (.getfield 76, 3) := by decide +kernel
theorem dX2_worst_102 : decode cX2_worst 102 = .ok (.iload 4, 2) := by decide +kernel
theorem dX2_worst_104 : decode cX2_worst 104 = .ok (.iaload, 1) := by decide +kernel
theorem dX2_worst_105 : decode cX2_worst 105 = .ok (.goto 4, 3) := by decide +kernel
theorem dX2_worst_108 : decode cX2_worst 108 = .ok (.iconst 0, 1) := by decide +kernel
theorem dX2_worst_109 : decode cX2_worst 109 = .ok (.ireturn, 1) := by decide +kernel
theorem dX2_again_0 : decode cX2_again 0 = .ok (.aload_n 0, 1) := by decide +kernel
theorem dX2_again_1 : decode cX2_again 1 = .ok (.getfield 19, 3) := by decide +kernel
theorem dX2_again_4 : decode cX2_again 4 = .ok (.aload_n 0, 1) := by decide +kernel
theorem dX2_again_5 : decode cX2_again 5 = .ok (.getfield 12, 3) := by decide +kernel
theorem dX2_again_8 : decode cX2_again 8 = .ok (.invokevirtual 106, 3) := by decide +kernel
theorem dX2_again_11 : decode cX2_again 11 = .ok (.aload_n 0, 1) := by decide +kernel
theorem dX2_again_12 : decode cX2_again 12 = .ok (.getfield 19, 3) := by decide +kernel
theorem dX2_again_15 : decode cX2_again 15 = .ok (.bipush 40, 2) := by decide +kernel
theorem dX2_again_17 : decode cX2_again 17 = .ok (.invokevirtual 110, 3) := by decide +kernel
theorem dX2_again_20 : decode cX2_again 20 = .ok (.pop, 1) := by decide +kernel
theorem dX2_again_21 : decode cX2_again 21 = .ok (.aload_n 0, 1) := by decide +kernel
theorem dX2_again_22 : decode cX2_again 22 = .ok (.getfield 22, 3) := by decide +kernel
theorem dX2_again_25 : decode cX2_again 25 = .ok (.aload_n 0, 1) := by decide +kernel
theorem dX2_again_26 : decode cX2_again 26 = .ok (.getfield 19, 3) := by decide +kernel
theorem dX2_again_29 : decode cX2_again 29 = .ok (.invokevirtual 106, 3) := by decide +kernel
theorem dX2_again_32 : decode cX2_again 32 = .ok (.iconst 1, 1) := by decide +kernel
theorem dX2_again_33 : decode cX2_again 33 = .ok (.istore_n 1, 1) := by decide +kernel
theorem dX2_again_34 : decode cX2_again 34 = .ok (.iload_n 1, 1) := by decide +kernel
theorem dX2_again_35 : decode cX2_again 35 = .ok (.bipush 30, 2) := by decide +kernel
theorem dX2_again_37 : decode cX2_again 37 = .ok (.if_icmp .gt 32, 3) := by decide +kernel
theorem dX2_again_40 : decode cX2_again 40 = .ok (.aload_n 0, 1) := by decide +kernel
theorem dX2_again_41 : decode cX2_again 41 = .ok (.getfield 22, 3) := by decide +kernel
theorem dX2_again_44 : decode cX2_again 44 = .ok (.invokevirtual 100, 3) := by decide +kernel
theorem dX2_again_47 : decode cX2_again 47 = .ok (.aload_n 0, 1) := by decide +kernel
theorem dX2_again_48 : decode cX2_again 48 = .ok (.getfield 22, 3) := by decide +kernel
theorem dX2_again_51 : decode cX2_again 51 = .ok (.aload_n 0, 1) := by decide +kernel
theorem dX2_again_52 : decode cX2_again 52 = .ok (.getfield 19, 3) := by decide +kernel
theorem dX2_again_55 : decode cX2_again 55 = .ok (.invokevirtual 116, 3) := by decide +kernel
theorem dX2_again_58 : decode cX2_again 58 = .ok (.ifCond .eq 5, 3) := by decide +kernel
theorem dX2_again_61 : decode cX2_again 61 = .ok (.iload_n 1, 1) := by decide +kernel
theorem dX2_again_62 : decode cX2_again 62 = .ok (.ireturn, 1) := by decide +kernel
theorem dX2_again_63 : decode cX2_again 63 = .ok (.iinc 1 1, 3) := by decide +kernel
theorem dX2_again_66 : decode cX2_again 66 = .ok (.goto (-32), 3) := by decide +kernel
theorem dX2_again_69 : decode cX2_again 69 = .ok (.bipush (-9), 2) := by decide +kernel
theorem dX2_again_71 : decode cX2_again 71 = .ok (.ireturn, 1) := by decide +kernel
theorem dX2_way_0 : decode cX2_way 0 = .ok (.aload_n 0, 1) := by decide +kernel
theorem dX2_way_1 : decode cX2_way 1 = .ok (.getfield 12, 3) := by decide +kernel
theorem dX2_way_4 : decode cX2_way 4 = .ok (.iload_n 1, 1) := by decide +kernel
theorem dX2_way_5 : decode cX2_way 5 = .ok (.invokevirtual 69, 3) := by decide +kernel
theorem dX2_way_8 : decode cX2_way 8 = .ok (.ifCond .eq 14, 3) := by decide +kernel
theorem dX2_way_11 : decode cX2_way 11 = .ok (.aload_n 0, 1) := by decide +kernel
theorem dX2_way_12 : decode cX2_way 12 = .ok (.getfield 12, 3) := by decide +kernel
theorem dX2_way_15 : decode cX2_way 15 = .ok (.iload_n 2, 1) := by decide +kernel
theorem dX2_way_16 : decode cX2_way 16 = .ok (.invokevirtual 69, 3) := by decide +kernel
theorem dX2_way_19 : decode cX2_way 19 = .ok (.ifCond .ne 9, 3) := by decide +kernel
theorem dX2_way_22 : decode cX2_way 22 = .ok (.aload_n 0, 1) := by decide +kernel
theorem dX2_way_23 : decode cX2_way 23 = .ok (.iconst (-1), 1) := by decide +kernel
theorem dX2_way_24 : decode cX2_way 24 = .ok (.invokevirtual 53, 3) := by decide +kernel
theorem dX2_way_27 : decode cX2_way 27 = .ok (.ireturn, 1) := by decide +kernel
theorem dX2_way_28 : decode cX2_way 28 = .ok (.iload_n 1, 1) := by decide +kernel
theorem dX2_way_29 : decode cX2_way 29 = .ok (.istore_n 3, 1) := by decide +kernel
theorem dX2_way_30 : decode cX2_way 30 = .ok (.iconst 0, 1) := by decide +kernel
theorem dX2_way_31 : decode cX2_way 31 = .ok (.istore 4, 2) := by decide +kernel
theorem dX2_way_33 : decode cX2_way 33 = .ok (.iload 4, 2) := by decide +kernel
theorem dX2_way_35 : decode cX2_way 35 = .ok (.aload_n 0, 1) := by decide +kernel
theorem dX2_way_36 : decode cX2_way 36 = .ok (.getfield 12, 3) := by decide +kernel
theorem dX2_way_39 : decode cX2_way 39 = .ok (.getfield 120, 3) := by decide +kernel
theorem dX2_way_42 : decode cX2_way 42 = .ok (.if_icmp .ge 26, 3) := by decide +kernel
theorem dX2_way_45 : decode cX2_way 45 = .ok (.iload_n 3, 1) := by decide +kernel
theorem dX2_way_46 : decode cX2_way 46 = .ok (.iload_n 2, 1) := by decide +kernel
theorem dX2_way_47 : decode cX2_way 47 = .ok (.if_icmp .ne 6, 3) := by decide +kernel
theorem dX2_way_50 : decode cX2_way 50 = .ok (.iload 4, 2) := by decide +kernel
theorem dX2_way_52 : decode cX2_way 52 = .ok (.ireturn, 1) := by decide +kernel
theorem dX2_way_53 : decode cX2_way 53 = .ok (.aload_n 0, 1) := by decide +kernel
theorem dX2_way_54 : decode cX2_way 54 = .ok (.getfield 12, 3) := by decide +kernel
theorem dX2_way_57 : decode cX2_way 57 = .ok (.iload_n 3, 1) := by decide +kernel
theorem dX2_way_58 : decode cX2_way 58 = .ok (.invokevirtual 123, 3) := by decide +kernel
theorem dX2_way_61 : decode cX2_way 61 = .ok (.istore_n 3, 1) := by decide +kernel
theorem dX2_way_62 : decode cX2_way 62 = .ok (.iinc 4 1, 3) := by decide +kernel
theorem dX2_way_65 : decode cX2_way 65 = .ok (.goto (-32), 3) := by decide +kernel
theorem dX2_way_68 : decode cX2_way 68 = .ok (.bipush (-9), 2) := by decide +kernel
theorem dX2_way_70 : decode cX2_way 70 = .ok (.ireturn, 1) := by decide +kernel
theorem dX2_ring_0 : decode cX2_ring 0 = .ok (.iconst 0, 1) := by decide +kernel
theorem dX2_ring_1 : decode cX2_ring 1 = .ok (.istore_n 1, 1) := by decide +kernel
theorem dX2_ring_2 : decode cX2_ring 2 = .ok (.iconst 0, 1) := by decide +kernel
theorem dX2_ring_3 : decode cX2_ring 3 = .ok (.istore_n 2, 1) := by decide +kernel
theorem dX2_ring_4 : decode cX2_ring 4 = .ok (.iload_n 2, 1) := by decide +kernel
theorem dX2_ring_5 : decode cX2_ring 5 = .ok (.aload_n 0, 1) := by decide +kernel
theorem dX2_ring_6 : decode cX2_ring 6 = .ok (.getfield 12, 3) := by decide +kernel
theorem dX2_ring_9 : decode cX2_ring 9 = .ok (.getfield 120, 3) := by decide +kernel
theorem dX2_ring_12 : decode cX2_ring 12 = .ok (.if_icmp .ge 26, 3) := by decide +kernel
theorem dX2_ring_15 : decode cX2_ring 15 = .ok (.aload_n 0, 1) := by decide +kernel
theorem dX2_ring_16 : decode cX2_ring 16 = .ok (.getfield 12, 3) := by decide +kernel
theorem dX2_ring_19 : decode cX2_ring 19 = .ok (.iload_n 2, 1) := by decide +kernel
theorem dX2_ring_20 : decode cX2_ring 20 = .ok (.invokevirtual 126, 3) := by decide +kernel
theorem dX2_ring_23 : decode cX2_ring 23 = .ok (.ifCond .eq 9, 3) := by decide +kernel
theorem dX2_ring_26 : decode cX2_ring 26 = .ok (.iload_n 1, 1) := by decide +kernel
theorem dX2_ring_27 : decode cX2_ring 27 = .ok (.iconst 1, 1) := by decide +kernel
theorem dX2_ring_28 : decode cX2_ring 28 = .ok (.iload_n 2, 1) := by decide +kernel
theorem dX2_ring_29 : decode cX2_ring 29 = .ok (.ishl, 1) := by decide +kernel
theorem dX2_ring_30 : decode cX2_ring 30 = .ok (.ior, 1) := by decide +kernel
theorem dX2_ring_31 : decode cX2_ring 31 = .ok (.istore_n 1, 1) := by decide +kernel
theorem dX2_ring_32 : decode cX2_ring 32 = .ok (.iinc 2 1, 3) := by decide +kernel
theorem dX2_ring_35 : decode cX2_ring 35 = .ok (.goto (-31), 3) := by decide +kernel
theorem dX2_ring_38 : decode cX2_ring 38 = .ok (.iload_n 1, 1) := by decide +kernel
theorem dX2_ring_39 : decode cX2_ring 39 = .ok (.ireturn, 1) := by decide +kernel
theorem dX2_tail_0 : decode cX2_tail 0 = .ok (.aload_n 0, 1) := by decide +kernel
theorem dX2_tail_1 : decode cX2_tail 1 = .ok (.getfield 12, 3) := by decide +kernel
theorem dX2_tail_4 : decode cX2_tail 4 = .ok (.iload_n 1, 1) := by decide +kernel
theorem dX2_tail_5 : decode cX2_tail 5 = .ok (.invokevirtual 69, 3) := by decide +kernel
theorem dX2_tail_8 : decode cX2_tail 8 = .ok (.ifCond .ne 9, 3) := by decide +kernel
theorem dX2_tail_11 : decode cX2_tail 11 = .ok (.aload_n 0, 1) := by decide +kernel
theorem dX2_tail_12 : decode cX2_tail 12 = .ok (.iconst (-1), 1) := by decide +kernel
theorem dX2_tail_13 : decode cX2_tail 13 = .ok (.invokevirtual 53, 3) := by decide +kernel
theorem dX2_tail_16 : decode cX2_tail 16 = .ok (.ireturn, 1) := by decide +kernel
theorem dX2_tail_17 : decode cX2_tail 17 = .ok (.iload_n 1, 1) := by decide +kernel
theorem dX2_tail_18 : decode cX2_tail 18 = .ok (.istore_n 2, 1) := by decide +kernel
theorem dX2_tail_19 : decode cX2_tail 19 = .ok (.iconst 0, 1) := by decide +kernel
theorem dX2_tail_20 : decode cX2_tail 20 = .ok (.istore_n 3, 1) := by decide +kernel
theorem dX2_tail_21 : decode cX2_tail 21 = .ok (.iload_n 3, 1) := by decide +kernel
theorem dX2_tail_22 : decode cX2_tail 22 = .ok (.aload_n 0, 1) := by decide +kernel
theorem dX2_tail_23 : decode cX2_tail 23 = .ok (.getfield 12, 3) := by decide +kernel
theorem dX2_tail_26 : decode cX2_tail 26 = .ok (.getfield 120, 3) := by decide +kernel
theorem dX2_tail_29 : decode cX2_tail 29 = .ok (.if_icmp .ge 29, 3) := by decide +kernel
theorem dX2_tail_32 : decode cX2_tail 32 = .ok (.aload_n 0, 1) := by decide +kernel
theorem dX2_tail_33 : decode cX2_tail 33 = .ok (.getfield 12, 3) := by decide +kernel
theorem dX2_tail_36 : decode cX2_tail 36 = .ok (.iload_n 2, 1) := by decide +kernel
theorem dX2_tail_37 : decode cX2_tail 37 = .ok (.invokevirtual 126, 3) := by decide +kernel
theorem dX2_tail_40 : decode cX2_tail 40 = .ok (.ifCond .ne 18, 3) := by decide +kernel
theorem dX2_tail_43 : decode cX2_tail 43 = .ok (.aload_n 0, 1) := by decide +kernel
theorem dX2_tail_44 : decode cX2_tail 44 = .ok (.getfield 12, 3) := by decide +kernel
theorem dX2_tail_47 : decode cX2_tail 47 = .ok (.iload_n 2, 1) := by decide +kernel
theorem dX2_tail_48 : decode cX2_tail 48 = .ok (.invokevirtual 123, 3) := by decide +kernel
theorem dX2_tail_51 : decode cX2_tail 51 = .ok (.istore_n 2, 1) := by decide +kernel
theorem dX2_tail_52 : decode cX2_tail 52 = .ok (.iinc 3 1, 3) := by decide +kernel
theorem dX2_tail_55 : decode cX2_tail 55 = .ok (.goto (-34), 3) := by decide +kernel
theorem dX2_tail_58 : decode cX2_tail 58 = .ok (.iload_n 3, 1) := by decide +kernel
theorem dX2_tail_59 : decode cX2_tail 59 = .ok (.ireturn, 1) := by decide +kernel
theorem dX2_rings_0 : decode cX2_rings 0 = .ok (.iconst 0, 1) := by decide +kernel
theorem dX2_rings_1 : decode cX2_rings 1 = .ok (.istore_n 1, 1) := by decide +kernel
theorem dX2_rings_2 : decode cX2_rings 2 = .ok (.iconst 0, 1) := by decide +kernel
theorem dX2_rings_3 : decode cX2_rings 3 = .ok (.istore_n 2, 1) := by decide +kernel
theorem dX2_rings_4 : decode cX2_rings 4 = .ok (.iload_n 2, 1) := by decide +kernel
theorem dX2_rings_5 : decode cX2_rings 5 = .ok (.aload_n 0, 1) := by decide +kernel
theorem dX2_rings_6 : decode cX2_rings 6 = .ok (.getfield 12, 3) := by decide +kernel
theorem dX2_rings_9 : decode cX2_rings 9 = .ok (.getfield 120, 3) := by decide +kernel
theorem dX2_rings_12 : decode cX2_rings 12 = .ok (.if_icmp .ge 35, 3) := by decide +kernel
theorem dX2_rings_15 : decode cX2_rings 15 = .ok (.aload_n 0, 1) := by decide +kernel
theorem dX2_rings_16 : decode cX2_rings 16 = .ok (.getfield 12, 3) := by decide +kernel
theorem dX2_rings_19 : decode cX2_rings 19 = .ok (.iload_n 2, 1) := by decide +kernel
theorem dX2_rings_20 : decode cX2_rings 20 = .ok (.invokevirtual 126, 3) := by decide +kernel
theorem dX2_rings_23 : decode cX2_rings 23 = .ok (.ifCond .eq 18, 3) := by decide +kernel
theorem dX2_rings_26 : decode cX2_rings 26 = .ok (.aload_n 0, 1) := by decide +kernel
theorem dX2_rings_27 : decode cX2_rings 27 = .ok (.getfield 12, 3) := by decide +kernel
theorem dX2_rings_30 : decode cX2_rings 30 = .ok (.iload_n 2, 1) := by decide +kernel
theorem dX2_rings_31 : decode cX2_rings 31 = .ok (.invokevirtual 129, 3) := by decide +kernel
theorem dX2_rings_34 : decode cX2_rings 34 = .ok (.iload_n 2, 1) := by decide +kernel
theorem dX2_rings_35 : decode cX2_rings 35 = .ok (.if_icmp .ne 6, 3) := by decide +kernel
theorem dX2_rings_38 : decode cX2_rings 38 = .ok (.iinc 1 1, 3) := by decide +kernel
theorem dX2_rings_41 : decode cX2_rings 41 = .ok (.iinc 2 1, 3) := by decide +kernel
theorem dX2_rings_44 : decode cX2_rings 44 = .ok (.goto (-40), 3) := by decide +kernel
theorem dX2_rings_47 : decode cX2_rings 47 = .ok (.iload_n 1, 1) := by decide +kernel
theorem dX2_rings_48 : decode cX2_rings 48 = .ok (.ireturn, 1) := by decide +kernel
theorem dX2_never_0 : decode cX2_never 0 = .ok (.iconst 0, 1) := by decide +kernel
theorem dX2_never_1 : decode cX2_never 1 = .ok (.istore_n 1, 1) := by decide +kernel
theorem dX2_never_2 : decode cX2_never 2 = .ok (.iconst 0, 1) := by decide +kernel
theorem dX2_never_3 : decode cX2_never 3 = .ok (.istore_n 2, 1) := by decide +kernel
theorem dX2_never_4 : decode cX2_never 4 = .ok (.iload_n 2, 1) := by decide +kernel
theorem dX2_never_5 : decode cX2_never 5 = .ok (.aload_n 0, 1) := by decide +kernel
theorem dX2_never_6 : decode cX2_never 6 = .ok (.getfield 12, 3) := by decide +kernel
theorem dX2_never_9 : decode cX2_never 9 = .ok (.getfield 120, 3) := by decide +kernel
theorem dX2_never_12 : decode cX2_never 12 = .ok (.if_icmp .ge 26, 3) := by decide +kernel
theorem dX2_never_15 : decode cX2_never 15 = .ok (.aload_n 0, 1) := by decide +kernel
theorem dX2_never_16 : decode cX2_never 16 = .ok (.getfield 12, 3) := by decide +kernel
theorem dX2_never_19 : decode cX2_never 19 = .ok (.iload_n 2, 1) := by decide +kernel
theorem dX2_never_20 : decode cX2_never 20 = .ok (.invokevirtual 94, 3) := by decide +kernel
theorem dX2_never_23 : decode cX2_never 23 = .ok (.ifCond .ne 9, 3) := by decide +kernel
theorem dX2_never_26 : decode cX2_never 26 = .ok (.iload_n 1, 1) := by decide +kernel
theorem dX2_never_27 : decode cX2_never 27 = .ok (.iconst 1, 1) := by decide +kernel
theorem dX2_never_28 : decode cX2_never 28 = .ok (.iload_n 2, 1) := by decide +kernel
theorem dX2_never_29 : decode cX2_never 29 = .ok (.ishl, 1) := by decide +kernel
theorem dX2_never_30 : decode cX2_never 30 = .ok (.ior, 1) := by decide +kernel
theorem dX2_never_31 : decode cX2_never 31 = .ok (.istore_n 1, 1) := by decide +kernel
theorem dX2_never_32 : decode cX2_never 32 = .ok (.iinc 2 1, 3) := by decide +kernel
theorem dX2_never_35 : decode cX2_never 35 = .ok (.goto (-31), 3) := by decide +kernel
theorem dX2_never_38 : decode cX2_never 38 = .ok (.iload_n 1, 1) := by decide +kernel
theorem dX2_never_39 : decode cX2_never 39 = .ok (.ireturn, 1) := by decide +kernel
theorem dX2_felt_0 : decode cX2_felt 0 = .ok (.aload_n 0, 1) := by decide +kernel
theorem dX2_felt_1 : decode cX2_felt 1 = .ok (.getfield 12, 3) := by decide +kernel
theorem dX2_felt_4 : decode cX2_felt 4 = .ok (.iload_n 1, 1) := by decide +kernel
theorem dX2_felt_5 : decode cX2_felt 5 = .ok (.invokevirtual 69, 3) := by decide +kernel
theorem dX2_felt_8 : decode cX2_felt 8 = .ok (.ifCond .eq 14, 3) := by decide +kernel
theorem dX2_felt_11 : decode cX2_felt 11 = .ok (.aload_n 0, 1) := by decide +kernel
theorem dX2_felt_12 : decode cX2_felt 12 = .ok (.getfield 12, 3) := by decide +kernel
theorem dX2_felt_15 : decode cX2_felt 15 = .ok (.iload_n 2, 1) := by decide +kernel
theorem dX2_felt_16 : decode cX2_felt 16 = .ok (.invokevirtual 69, 3) := by decide +kernel
theorem dX2_felt_19 : decode cX2_felt 19 = .ok (.ifCond .ne 9, 3) := by decide +kernel
theorem dX2_felt_22 : decode cX2_felt 22 = .ok (.aload_n 0, 1) := by decide +kernel
theorem dX2_felt_23 : decode cX2_felt 23 = .ok (.iconst (-1), 1) := by decide +kernel
theorem dX2_felt_24 : decode cX2_felt 24 = .ok (.invokevirtual 53, 3) := by decide +kernel
theorem dX2_felt_27 : decode cX2_felt 27 = .ok (.ireturn, 1) := by decide +kernel
theorem dX2_felt_28 : decode cX2_felt 28 = .ok (.aload_n 0, 1) := by decide +kernel
theorem dX2_felt_29 : decode cX2_felt 29 = .ok (.getfield 22, 3) := by decide +kernel
theorem dX2_felt_32 : decode cX2_felt 32 = .ok (.aload_n 0, 1) := by decide +kernel
theorem dX2_felt_33 : decode cX2_felt 33 = .ok (.getfield 12, 3) := by decide +kernel
theorem dX2_felt_36 : decode cX2_felt 36 = .ok (.invokevirtual 106, 3) := by decide +kernel
theorem dX2_felt_39 : decode cX2_felt 39 = .ok (.aload_n 0, 1) := by decide +kernel
theorem dX2_felt_40 : decode cX2_felt 40 = .ok (.getfield 19, 3) := by decide +kernel
theorem dX2_felt_43 : decode cX2_felt 43 = .ok (.aload_n 0, 1) := by decide +kernel
theorem dX2_felt_44 : decode cX2_felt 44 = .ok (.getfield 12, 3) := by decide +kernel
theorem dX2_felt_47 : decode cX2_felt 47 = .ok (.invokevirtual 106, 3) := by decide +kernel
theorem dX2_felt_50 : decode cX2_felt 50 = .ok (.aload_n 0, 1) := by decide +kernel
theorem dX2_felt_51 : decode cX2_felt 51 = .ok (.getfield 19, 3) := by decide +kernel
theorem dX2_felt_54 : decode cX2_felt 54 = .ok (.iload_n 1, 1) := by decide +kernel
theorem dX2_felt_55 : decode cX2_felt 55 = .ok (.putfield 132, 3) := by decide +kernel
theorem dX2_felt_58 : decode cX2_felt 58 = .ok (.iconst 1, 1) := by decide +kernel
theorem dX2_felt_59 : decode cX2_felt 59 = .ok (.istore_n 3, 1) := by decide +kernel
theorem dX2_felt_60 : decode cX2_felt 60 = .ok (.iload_n 3, 1) := by decide +kernel
theorem dX2_felt_61 : decode cX2_felt 61 = .ok (.bipush 40, 2) := by decide +kernel
theorem dX2_felt_63 : decode cX2_felt 63 = .ok (.if_icmp .gt 46, 3) := by decide +kernel
theorem dX2_felt_66 : decode cX2_felt 66 = .ok (.aload_n 0, 1) := by decide +kernel
theorem dX2_felt_67 : decode cX2_felt 67 = .ok (.getfield 22, 3) := by decide +kernel
theorem dX2_felt_70 : decode cX2_felt 70 = .ok (.invokevirtual 100, 3) := by decide +kernel
theorem dX2_felt_73 : decode cX2_felt 73 = .ok (.aload_n 0, 1) := by decide +kernel
theorem dX2_felt_74 : decode cX2_felt 74 = .ok (.getfield 19, 3) := by decide +kernel
theorem dX2_felt_77 : decode cX2_felt 77 = .ok (.invokevirtual 100, 3) := by decide +kernel
theorem dX2_felt_80 : decode cX2_felt 80 = .ok (.aload_n 0, 1) := by decide +kernel
theorem dX2_felt_81 : decode cX2_felt 81 = .ok (.getfield 19, 3) := by decide +kernel
theorem dX2_felt_84 : decode cX2_felt 84 = .ok (.getfield 76, 3) := by decide +kernel
theorem dX2_felt_87 : decode cX2_felt 87 = .ok (.iload_n 2, 1) := by decide +kernel
theorem dX2_felt_88 : decode cX2_felt 88 = .ok (.iaload, 1) := by decide +kernel
theorem dX2_felt_89 : decode cX2_felt 89 = .ok (.aload_n 0, 1) := by decide +kernel
theorem dX2_felt_90 : decode cX2_felt 90 = .ok (.getfield 22, 3) := by decide +kernel
theorem dX2_felt_93 : decode cX2_felt 93 = .ok (.getfield 76, 3) := by decide +kernel
theorem dX2_felt_96 : decode cX2_felt 96 = .ok (.iload_n 2, 1) := by decide +kernel
theorem dX2_felt_97 : decode cX2_felt 97 = .ok (.iaload, 1) := by decide +kernel
theorem dX2_felt_98 : decode cX2_felt 98 = .ok (.if_icmp .eq 5, 3) := by decide +kernel
theorem dX2_felt_101 : decode cX2_felt 101 = .ok (.iload_n 3, 1) := by decide +kernel
theorem dX2_felt_102 : decode cX2_felt 102 = .ok (.ireturn, 1) := by decide +kernel
theorem dX2_felt_103 : decode cX2_felt 103 = .ok (.iinc 3 1, 3) := by decide +kernel
theorem dX2_felt_106 : decode cX2_felt 106 = .ok (.goto (-46), 3) := by decide +kernel
theorem dX2_felt_109 : decode cX2_felt 109 = .ok (.bipush (-9), 2) := by decide +kernel
theorem dX2_felt_111 : decode cX2_felt 111 = .ok (.ireturn, 1) := by decide +kernel
theorem dX2_worth_0 : decode cX2_worth 0 = .ok (.aload_n 0, 1) := by decide +kernel
theorem dX2_worth_1 : decode cX2_worth 1 = .ok (.getfield 12, 3) := by decide +kernel
theorem dX2_worth_4 : decode cX2_worth 4 = .ok (.iload_n 1, 1) := by decide +kernel
theorem dX2_worth_5 : decode cX2_worth 5 = .ok (.invokevirtual 69, 3) := by decide +kernel
theorem dX2_worth_8 : decode cX2_worth 8 = .ok (.iload_n 2, 1) := by decide +kernel
theorem dX2_worth_9 : decode cX2_worth 9 = .ok (.iconst 0, 1) := by decide +kernel
theorem dX2_worth_10 : decode cX2_worth 10 = .ok (.bipush 60, 2) := by decide +kernel
theorem dX2_worth_12 : decode cX2_worth 12 = .ok (.invokestatic 45, 3) := by decide +kernel
theorem dX2_worth_15 : decode cX2_worth 15 = .ok (.istore_n 3, 1) := by decide +kernel
theorem dX2_worth_16 : decode cX2_worth 16 = .ok (.iload_n 3, 1) := by decide +kernel
theorem dX2_worth_17 : decode cX2_worth 17 = .ok (.ifCond .eq 12, 3) := by decide +kernel
theorem dX2_worth_20 : decode cX2_worth 20 = .ok (.ldc 135, 2) := by decide +kernel
theorem dX2_worth_22 : decode cX2_worth 22 = .ok (.aload_n 0, 1) := by decide +kernel
theorem dX2_worth_23 : decode cX2_worth 23 = .ok (.iload_n 3, 1) := by decide +kernel
theorem dX2_worth_24 : decode cX2_worth 24 = .ok (.invokevirtual 53, 3) := by decide +kernel
theorem dX2_worth_27 : decode cX2_worth 27 = .ok (.isub, 1) := by decide +kernel
theorem dX2_worth_28 : decode cX2_worth 28 = .ok (.ireturn, 1) := by decide +kernel
theorem dX2_worth_29 : decode cX2_worth 29 = .ok (.aload_n 0, 1) := by decide +kernel
theorem dX2_worth_30 : decode cX2_worth 30 = .ok (.getfield 22, 3) := by decide +kernel
theorem dX2_worth_33 : decode cX2_worth 33 = .ok (.aload_n 0, 1) := by decide +kernel
theorem dX2_worth_34 : decode cX2_worth 34 = .ok (.getfield 12, 3) := by decide +kernel
theorem dX2_worth_37 : decode cX2_worth 37 = .ok (.invokevirtual 106, 3) := by decide +kernel
theorem dX2_worth_40 : decode cX2_worth 40 = .ok (.aload_n 0, 1) := by decide +kernel
theorem dX2_worth_41 : decode cX2_worth 41 = .ok (.getfield 19, 3) := by decide +kernel
theorem dX2_worth_44 : decode cX2_worth 44 = .ok (.aload_n 0, 1) := by decide +kernel
theorem dX2_worth_45 : decode cX2_worth 45 = .ok (.getfield 12, 3) := by decide +kernel
theorem dX2_worth_48 : decode cX2_worth 48 = .ok (.invokevirtual 106, 3) := by decide +kernel
theorem dX2_worth_51 : decode cX2_worth 51 = .ok (.aload_n 0, 1) := by decide +kernel
theorem dX2_worth_52 : decode cX2_worth 52 = .ok (.getfield 19, 3) := by decide +kernel
theorem dX2_worth_55 : decode cX2_worth 55 = .ok (.iload_n 1, 1) := by decide +kernel
theorem dX2_worth_56 : decode cX2_worth 56 = .ok (.putfield 132, 3) := by decide +kernel
theorem dX2_worth_59 : decode cX2_worth 59 = .ok (.aload_n 0, 1) := by decide +kernel
theorem dX2_worth_60 : decode cX2_worth 60 = .ok (.getfield 19, 3) := by decide +kernel
theorem dX2_worth_63 : decode cX2_worth 63 = .ok (.iload_n 2, 1) := by decide +kernel
theorem dX2_worth_64 : decode cX2_worth 64 = .ok (.invokevirtual 110, 3) := by decide +kernel
theorem dX2_worth_67 : decode cX2_worth 67 = .ok (.aload_n 0, 1) := by decide +kernel
theorem dX2_worth_68 : decode cX2_worth 68 = .ok (.getfield 22, 3) := by decide +kernel
theorem dX2_worth_71 : decode cX2_worth 71 = .ok (.iload_n 2, 1) := by decide +kernel
theorem dX2_worth_72 : decode cX2_worth 72 = .ok (.invokevirtual 110, 3) := by decide +kernel
theorem dX2_worth_75 : decode cX2_worth 75 = .ok (.isub, 1) := by decide +kernel
theorem dX2_worth_76 : decode cX2_worth 76 = .ok (.ireturn, 1) := by decide +kernel
theorem dX2_bestMap_0 : decode cX2_bestMap 0 = .ok (.iload_n 2, 1) := by decide +kernel
theorem dX2_bestMap_1 : decode cX2_bestMap 1 = .ok (.iconst (-1), 1) := by decide +kernel
theorem dX2_bestMap_2 : decode cX2_bestMap 2 = .ok (.if_icmp .eq 14, 3) := by decide +kernel
theorem dX2_bestMap_5 : decode cX2_bestMap 5 = .ok (.aload_n 0, 1) := by decide +kernel
theorem dX2_bestMap_6 : decode cX2_bestMap 6 = .ok (.getfield 12, 3) := by decide +kernel
theorem dX2_bestMap_9 : decode cX2_bestMap 9 = .ok (.iload_n 2, 1) := by decide +kernel
theorem dX2_bestMap_10 : decode cX2_bestMap 10 = .ok (.invokevirtual 69, 3) := by decide +kernel
theorem dX2_bestMap_13 : decode cX2_bestMap 13 = .ok (.ifCond .eq 7, 3) := by decide +kernel
theorem dX2_bestMap_16 : decode cX2_bestMap 16 = .ok (.iconst 1, 1) := by decide +kernel
theorem dX2_bestMap_17 : decode cX2_bestMap 17 = .ok (.goto 4, 3) := by decide +kernel
theorem dX2_bestMap_20 : decode cX2_bestMap 20 = .ok (.iconst 0, 1) := by decide +kernel
theorem dX2_bestMap_21 : decode cX2_bestMap 21 = .ok (.iload_n 1, 1) := by decide +kernel
theorem dX2_bestMap_22 : decode cX2_bestMap 22 = .ok (.iconst 1, 1) := by decide +kernel
theorem dX2_bestMap_23 : decode cX2_bestMap 23 = .ok (.bipush 30, 2) := by decide +kernel
theorem dX2_bestMap_25 : decode cX2_bestMap 25 = .ok (.invokestatic 45, 3) := by decide +kernel
theorem dX2_bestMap_28 : decode cX2_bestMap 28 = .ok (.istore_n 3, 1) := by decide +kernel
theorem dX2_bestMap_29 : decode cX2_bestMap 29 = .ok (.iload_n 3, 1) := by decide +kernel
theorem dX2_bestMap_30 : decode cX2_bestMap 30 = .ok (.ifCond .eq 9, 3) := by decide +kernel
theorem dX2_bestMap_33 : decode cX2_bestMap 33 = .ok (.aload_n 0, 1) := by decide +kernel
theorem dX2_bestMap_34 : decode cX2_bestMap 34 = .ok (.iload_n 3, 1) := by decide +kernel
theorem dX2_bestMap_35 : decode cX2_bestMap 35 = .ok (.invokevirtual 53, 3) := by decide +kernel
theorem dX2_bestMap_38 : decode cX2_bestMap 38 = .ok (.ireturn, 1) := by decide +kernel
theorem dX2_bestMap_39 : decode cX2_bestMap 39 = .ok (.aload_n 0, 1) := by decide +kernel
theorem dX2_bestMap_40 : decode cX2_bestMap 40 = .ok (.iload_n 1, 1) := by decide +kernel
theorem dX2_bestMap_41 : decode cX2_bestMap 41 = .ok (.invokevirtual 136, 3) := by decide +kernel
theorem dX2_bestMap_44 : decode cX2_bestMap 44 = .ok (.istore 4, 2) := by decide +kernel
theorem dX2_bestMap_46 : decode cX2_bestMap 46 = .ok (.aload_n 0, 1) := by decide +kernel
theorem dX2_bestMap_47 : decode cX2_bestMap 47 = .ok (.getfield 12, 3) := by decide +kernel
theorem dX2_bestMap_50 : decode cX2_bestMap 50 = .ok (.iload_n 2, 1) := by decide +kernel
theorem dX2_bestMap_51 : decode cX2_bestMap 51 = .ok (.invokevirtual 69, 3) := by decide +kernel
theorem dX2_bestMap_54 : decode cX2_bestMap 54 = .ok (.ifCond .eq 12, 3) := by decide +kernel
theorem dX2_bestMap_57 : decode cX2_bestMap 57 = .ok (.aload_n 0, 1) := by decide +kernel
theorem dX2_bestMap_58 : decode cX2_bestMap 58 = .ok (.getfield 36, 3) := by decide +kernel
theorem dX2_bestMap_61 : decode cX2_bestMap 61 = .ok (.iload_n 2, 1) := by decide +kernel
theorem dX2_bestMap_62 : decode cX2_bestMap 62 = .ok (.iaload, 1) := by decide +kernel
theorem dX2_bestMap_63 : decode cX2_bestMap 63 = .ok (.goto 5, 3) := by decide +kernel
theorem dX2_bestMap_66 : decode cX2_bestMap 66 = .ok (.iload 4, 2) := by decide +kernel
theorem dX2_bestMap_68 : decode cX2_bestMap 68 = .ok (.ireturn, 1) := by decide +kernel
theorem dX2_change_0 : decode cX2_change 0 = .ok (.iconst 1, 1) := by decide +kernel
theorem dX2_change_1 : decode cX2_change 1 = .ok (.iload_n 1, 1) := by decide +kernel
theorem dX2_change_2 : decode cX2_change 2 = .ok (.iconst 1, 1) := by decide +kernel
theorem dX2_change_3 : decode cX2_change 3 = .ok (.bipush 30, 2) := by decide +kernel
theorem dX2_change_5 : decode cX2_change 5 = .ok (.invokestatic 45, 3) := by decide +kernel
theorem dX2_change_8 : decode cX2_change 8 = .ok (.istore_n 2, 1) := by decide +kernel
theorem dX2_change_9 : decode cX2_change 9 = .ok (.iload_n 2, 1) := by decide +kernel
theorem dX2_change_10 : decode cX2_change 10 = .ok (.ifCond .eq 9, 3) := by decide +kernel
theorem dX2_change_13 : decode cX2_change 13 = .ok (.aload_n 0, 1) := by decide +kernel
theorem dX2_change_14 : decode cX2_change 14 = .ok (.iload_n 2, 1) := by decide +kernel
theorem dX2_change_15 : decode cX2_change 15 = .ok (.invokevirtual 53, 3) := by decide +kernel
theorem dX2_change_18 : decode cX2_change 18 = .ok (.ireturn, 1) := by decide +kernel
theorem dX2_change_19 : decode cX2_change 19 = .ok (.aload_n 0, 1) := by decide +kernel
theorem dX2_change_20 : decode cX2_change 20 = .ok (.getfield 19, 3) := by decide +kernel
theorem dX2_change_23 : decode cX2_change 23 = .ok (.aload_n 0, 1) := by decide +kernel
theorem dX2_change_24 : decode cX2_change 24 = .ok (.getfield 12, 3) := by decide +kernel
theorem dX2_change_27 : decode cX2_change 27 = .ok (.invokevirtual 106, 3) := by decide +kernel
theorem dX2_change_30 : decode cX2_change 30 = .ok (.aload_n 0, 1) := by decide +kernel
theorem dX2_change_31 : decode cX2_change 31 = .ok (.getfield 19, 3) := by decide +kernel
theorem dX2_change_34 : decode cX2_change 34 = .ok (.iload_n 1, 1) := by decide +kernel
theorem dX2_change_35 : decode cX2_change 35 = .ok (.invokevirtual 110, 3) := by decide +kernel
theorem dX2_change_38 : decode cX2_change 38 = .ok (.istore_n 3, 1) := by decide +kernel
theorem dX2_change_39 : decode cX2_change 39 = .ok (.bipush (-9), 2) := by decide +kernel
theorem dX2_change_41 : decode cX2_change 41 = .ok (.istore 4, 2) := by decide +kernel
theorem dX2_change_43 : decode cX2_change 43 = .ok (.iconst 0, 1) := by decide +kernel
theorem dX2_change_44 : decode cX2_change 44 = .ok (.istore 5, 2) := by decide +kernel
theorem dX2_change_46 : decode cX2_change 46 = .ok (.iload 5, 2) := by decide +kernel
theorem dX2_change_48 : decode cX2_change 48 = .ok (.aload_n 0, 1) := by decide +kernel
theorem dX2_change_49 : decode cX2_change 49 = .ok (.getfield 12, 3) := by decide +kernel
theorem dX2_change_52 : decode cX2_change 52 = .ok (.getfield 120, 3) := by decide +kernel
theorem dX2_change_55 : decode cX2_change 55 = .ok (.if_icmp .ge 82, 3) := by decide +kernel
theorem dX2_change_58 : decode cX2_change 58 = .ok (.iconst 0, 1) := by decide +kernel
theorem dX2_change_59 : decode cX2_change 59 = .ok (.istore 6, 2) := by decide +kernel
theorem dX2_change_61 : decode cX2_change 61 = .ok (.iload 6, 2) := by decide +kernel
theorem dX2_change_63 : decode cX2_change 63 = .ok (.aload_n 0, 1) := by decide +kernel
theorem dX2_change_64 : decode cX2_change 64 = .ok (.getfield 12, 3) := by decide +kernel
theorem dX2_change_67 : decode cX2_change 67 = .ok (.getfield 120, 3) := by decide +kernel
theorem dX2_change_70 : decode cX2_change 70 = .ok (.if_icmp .ge 61, 3) := by decide +kernel
theorem dX2_change_73 : decode cX2_change 73 = .ok (.aload_n 0, 1) := by decide +kernel
theorem dX2_change_74 : decode cX2_change 74 = .ok (.getfield 19, 3) := by decide +kernel
theorem dX2_change_77 : decode cX2_change 77 = .ok (.aload_n 0, 1) := by decide +kernel
theorem dX2_change_78 : decode cX2_change 78 = .ok (.getfield 12, 3) := by decide +kernel
theorem dX2_change_81 : decode cX2_change 81 = .ok (.invokevirtual 106, 3) := by decide +kernel
theorem dX2_change_84 : decode cX2_change 84 = .ok (.aload_n 0, 1) := by decide +kernel
theorem dX2_change_85 : decode cX2_change 85 = .ok (.getfield 19, 3) := by decide +kernel
theorem dX2_change_88 : decode cX2_change 88 = .ok (.getfield 88, 3) := by decide +kernel
theorem dX2_change_91 : decode cX2_change 91 = .ok (.iload 5, 2) := by decide +kernel
theorem dX2_change_93 : decode cX2_change 93 = .ok (.iload 6, 2) := by decide +kernel
theorem dX2_change_95 : decode cX2_change 95 = .ok (.iastore, 1) := by decide +kernel
theorem dX2_change_96 : decode cX2_change 96 = .ok (.aload_n 0, 1) := by decide +kernel
theorem dX2_change_97 : decode cX2_change 97 = .ok (.getfield 19, 3) := by decide +kernel
theorem dX2_change_100 : decode cX2_change 100 = .ok (.iload_n 1, 1) := by decide +kernel
theorem dX2_change_101 : decode cX2_change 101 = .ok (.invokevirtual 110, 3) := by decide +kernel
theorem dX2_change_104 : decode cX2_change 104 = .ok (.istore 7, 2) := by decide +kernel
theorem dX2_change_106 : decode cX2_change 106 = .ok (.iload 7, 2) := by decide +kernel
theorem dX2_change_108 : decode cX2_change 108 = .ok (.iload_n 3, 1) := by decide +kernel
theorem dX2_change_109 : decode cX2_change 109 = .ok (.if_icmp .ge 16, 3) := by decide +kernel
theorem dX2_change_112 : decode cX2_change 112 = .ok (.iload 7, 2) := by decide +kernel
theorem dX2_change_114 : decode cX2_change 114 = .ok (.istore_n 3, 1) := by decide +kernel
theorem dX2_change_115 : decode cX2_change 115 = .ok (.bipush 10, 2) := by decide +kernel
theorem dX2_change_117 : decode cX2_change 117 = .ok (.iload 5, 2) := by decide +kernel
theorem dX2_change_119 : decode cX2_change 119 = .ok (.imul, 1) := by decide +kernel
theorem dX2_change_120 : decode cX2_change 120 = .ok (.iload 6, 2) := by decide +kernel
theorem dX2_change_122 : decode cX2_change 122 = .ok (.iadd, 1) := by decide +kernel
theorem dX2_change_123 : decode cX2_change 123 = .ok (.istore 4, 2) := by decide +kernel
theorem dX2_change_125 : decode cX2_change 125 = .ok (.iinc 6 1, 3) := by decide +kernel
theorem dX2_change_128 : decode cX2_change 128 = .ok (.goto (-67), 3) := by decide +kernel
theorem dX2_change_131 : decode cX2_change 131 = .ok (.iinc 5 1, 3) := by decide +kernel
theorem dX2_change_134 : decode cX2_change 134 = .ok (.goto (-88), 3) := by decide +kernel
theorem dX2_change_137 : decode cX2_change 137 = .ok (.iload 4, 2) := by decide +kernel
theorem dX2_change_139 : decode cX2_change 139 = .ok (.ireturn, 1) := by decide +kernel
theorem dX2_cure_0 : decode cX2_cure 0 = .ok (.aload_n 0, 1) := by decide +kernel
theorem dX2_cure_1 : decode cX2_cure 1 = .ok (.getfield 12, 3) := by decide +kernel
theorem dX2_cure_4 : decode cX2_cure 4 = .ok (.iload_n 1, 1) := by decide +kernel
theorem dX2_cure_5 : decode cX2_cure 5 = .ok (.invokevirtual 69, 3) := by decide +kernel
theorem dX2_cure_8 : decode cX2_cure 8 = .ok (.iload_n 2, 1) := by decide +kernel
theorem dX2_cure_9 : decode cX2_cure 9 = .ok (.iconst 1, 1) := by decide +kernel
theorem dX2_cure_10 : decode cX2_cure 10 = .ok (.bipush 30, 2) := by decide +kernel
theorem dX2_cure_12 : decode cX2_cure 12 = .ok (.invokestatic 45, 3) := by decide +kernel
theorem dX2_cure_15 : decode cX2_cure 15 = .ok (.istore_n 3, 1) := by decide +kernel
theorem dX2_cure_16 : decode cX2_cure 16 = .ok (.iload_n 3, 1) := by decide +kernel
theorem dX2_cure_17 : decode cX2_cure 17 = .ok (.ifCond .eq 9, 3) := by decide +kernel
theorem dX2_cure_20 : decode cX2_cure 20 = .ok (.aload_n 0, 1) := by decide +kernel
theorem dX2_cure_21 : decode cX2_cure 21 = .ok (.iload_n 3, 1) := by decide +kernel
theorem dX2_cure_22 : decode cX2_cure 22 = .ok (.invokevirtual 53, 3) := by decide +kernel
theorem dX2_cure_25 : decode cX2_cure 25 = .ok (.ireturn, 1) := by decide +kernel
theorem dX2_cure_26 : decode cX2_cure 26 = .ok (.bipush 55, 2) := by decide +kernel
theorem dX2_cure_28 : decode cX2_cure 28 = .ok (.istore 4, 2) := by decide +kernel
theorem dX2_cure_30 : decode cX2_cure 30 = .ok (.iconst 0, 1) := by decide +kernel
theorem dX2_cure_31 : decode cX2_cure 31 = .ok (.istore 5, 2) := by decide +kernel
theorem dX2_cure_33 : decode cX2_cure 33 = .ok (.iconst 0, 1) := by decide +kernel
theorem dX2_cure_34 : decode cX2_cure 34 = .ok (.istore 6, 2) := by decide +kernel
theorem dX2_cure_36 : decode cX2_cure 36 = .ok (.iload 6, 2) := by decide +kernel
theorem dX2_cure_38 : decode cX2_cure 38 = .ok (.bipush 6, 2) := by decide +kernel
theorem dX2_cure_40 : decode cX2_cure 40 = .ok (.if_icmp .ge 56, 3) := by decide +kernel
theorem dX2_cure_43 : decode cX2_cure 43 = .ok (.aload_n 0, 1) := by decide +kernel
theorem dX2_cure_44 : decode cX2_cure 44 = .ok (.getfield 19, 3) := by decide +kernel
theorem dX2_cure_47 : decode cX2_cure 47 = .ok (.aload_n 0, 1) := by decide +kernel
theorem dX2_cure_48 : decode cX2_cure 48 = .ok (.getfield 12, 3) := by decide +kernel
theorem dX2_cure_51 : decode cX2_cure 51 = .ok (.invokevirtual 106, 3) := by decide +kernel
theorem dX2_cure_54 : decode cX2_cure 54 = .ok (.aload_n 0, 1) := by decide +kernel
theorem dX2_cure_55 : decode cX2_cure 55 = .ok (.getfield 19, 3) := by decide +kernel
theorem dX2_cure_58 : decode cX2_cure 58 = .ok (.getfield 73, 3) := by decide +kernel
theorem dX2_cure_61 : decode cX2_cure 61 = .ok (.iload_n 1, 1) := by decide +kernel
theorem dX2_cure_62 : decode cX2_cure 62 = .ok (.iload 6, 2) := by decide +kernel
theorem dX2_cure_64 : decode cX2_cure 64 = .ok (.iastore, 1) := by decide +kernel
theorem dX2_cure_65 : decode cX2_cure 65 = .ok (.aload_n 0, 1) := by decide +kernel
theorem dX2_cure_66 : decode cX2_cure 66 = .ok (.getfield 19, 3) := by decide +kernel
theorem dX2_cure_69 : decode cX2_cure 69 = .ok (.iload_n 2, 1) := by decide +kernel
theorem dX2_cure_70 : decode cX2_cure 70 = .ok (.invokevirtual 110, 3) := by decide +kernel
theorem dX2_cure_73 : decode cX2_cure 73 = .ok (.istore 7, 2) := by decide +kernel
theorem dX2_cure_75 : decode cX2_cure 75 = .ok (.iload 7, 2) := by decide +kernel
theorem dX2_cure_77 : decode cX2_cure 77 = .ok (.iload 4, 2) := by decide +kernel
theorem dX2_cure_79 : decode cX2_cure 79 = .ok (.if_icmp .ge 11, 3) := by decide +kernel
theorem dX2_cure_82 : decode cX2_cure 82 = .ok (.iload 7, 2) := by decide +kernel
theorem dX2_cure_84 : decode cX2_cure 84 = .ok (.istore 4, 2) := by decide +kernel
theorem dX2_cure_86 : decode cX2_cure 86 = .ok (.iload 6, 2) := by decide +kernel
theorem dX2_cure_88 : decode cX2_cure 88 = .ok (.istore 5, 2) := by decide +kernel
theorem dX2_cure_90 : decode cX2_cure 90 = .ok (.iinc 6 1, 3) := by decide +kernel
theorem dX2_cure_93 : decode cX2_cure 93 = .ok (.goto (-57), 3) := by decide +kernel
theorem dX2_cure_96 : decode cX2_cure 96 = .ok (.iload 5, 2) := by decide +kernel
theorem dX2_cure_98 : decode cX2_cure 98 = .ok (.ireturn, 1) := by decide +kernel
theorem dX2_putIn_0 : decode cX2_putIn 0 = .ok (.aload_n 0, 1) := by decide +kernel
theorem dX2_putIn_1 : decode cX2_putIn 1 = .ok (.getfield 12, 3) := by decide +kernel
theorem dX2_putIn_4 : decode cX2_putIn 4 = .ok (.iload_n 1, 1) := by decide +kernel
theorem dX2_putIn_5 : decode cX2_putIn 5 = .ok (.invokevirtual 69, 3) := by decide +kernel
theorem dX2_putIn_8 : decode cX2_putIn 8 = .ok (.ifCond .ne 9, 3) := by decide +kernel
theorem dX2_putIn_11 : decode cX2_putIn 11 = .ok (.aload_n 0, 1) := by decide +kernel
theorem dX2_putIn_12 : decode cX2_putIn 12 = .ok (.iconst (-1), 1) := by decide +kernel
theorem dX2_putIn_13 : decode cX2_putIn 13 = .ok (.invokevirtual 53, 3) := by decide +kernel
theorem dX2_putIn_16 : decode cX2_putIn 16 = .ok (.ireturn, 1) := by decide +kernel
theorem dX2_putIn_17 : decode cX2_putIn 17 = .ok (.iload_n 2, 1) := by decide +kernel
theorem dX2_putIn_18 : decode cX2_putIn 18 = .ok (.ifCond .lt 8, 3) := by decide +kernel
theorem dX2_putIn_21 : decode cX2_putIn 21 = .ok (.iload_n 3, 1) := by decide +kernel
theorem dX2_putIn_22 : decode cX2_putIn 22 = .ok (.iconst 1, 1) := by decide +kernel
theorem dX2_putIn_23 : decode cX2_putIn 23 = .ok (.if_icmp .ge 10, 3) := by decide +kernel
theorem dX2_putIn_26 : decode cX2_putIn 26 = .ok (.aload_n 0, 1) := by decide +kernel
theorem dX2_putIn_27 : decode cX2_putIn 27 = .ok (.bipush (-4), 2) := by decide +kernel
theorem dX2_putIn_29 : decode cX2_putIn 29 = .ok (.invokevirtual 53, 3) := by decide +kernel
theorem dX2_putIn_32 : decode cX2_putIn 32 = .ok (.ireturn, 1) := by decide +kernel
theorem dX2_putIn_33 : decode cX2_putIn 33 = .ok (.iload_n 2, 1) := by decide +kernel
theorem dX2_putIn_34 : decode cX2_putIn 34 = .ok (.iconst 4, 1) := by decide +kernel
theorem dX2_putIn_35 : decode cX2_putIn 35 = .ok (.if_icmp .gt 19, 3) := by decide +kernel
theorem dX2_putIn_38 : decode cX2_putIn 38 = .ok (.iload_n 3, 1) := by decide +kernel
theorem dX2_putIn_39 : decode cX2_putIn 39 = .ok (.bipush 30, 2) := by decide +kernel
theorem dX2_putIn_41 : decode cX2_putIn 41 = .ok (.if_icmp .gt 13, 3) := by decide +kernel
theorem dX2_putIn_44 : decode cX2_putIn 44 = .ok (.aload_n 0, 1) := by decide +kernel
theorem dX2_putIn_45 : decode cX2_putIn 45 = .ok (.getfield 12, 3) := by decide +kernel
theorem dX2_putIn_48 : decode cX2_putIn 48 = .ok (.invokevirtual 139, 3) := by decide +kernel
theorem dX2_putIn_51 : decode cX2_putIn 51 = .ok (.ifCond .eq 10, 3) := by decide +kernel
theorem dX2_putIn_54 : decode cX2_putIn 54 = .ok (.aload_n 0, 1) := by decide +kernel
theorem dX2_putIn_55 : decode cX2_putIn 55 = .ok (.bipush (-6), 2) := by decide +kernel
theorem dX2_putIn_57 : decode cX2_putIn 57 = .ok (.invokevirtual 53, 3) := by decide +kernel
theorem dX2_putIn_60 : decode cX2_putIn 60 = .ok (.ireturn, 1) := by decide +kernel
theorem dX2_putIn_61 : decode cX2_putIn 61 = .ok (.aload_n 0, 1) := by decide +kernel
theorem dX2_putIn_62 : decode cX2_putIn 62 = .ok (.getfield 19, 3) := by decide +kernel
theorem dX2_putIn_65 : decode cX2_putIn 65 = .ok (.aload_n 0, 1) := by decide +kernel
theorem dX2_putIn_66 : decode cX2_putIn 66 = .ok (.getfield 12, 3) := by decide +kernel
theorem dX2_putIn_69 : decode cX2_putIn 69 = .ok (.invokevirtual 106, 3) := by decide +kernel
theorem dX2_putIn_72 : decode cX2_putIn 72 = .ok (.aload_n 0, 1) := by decide +kernel
theorem dX2_putIn_73 : decode cX2_putIn 73 = .ok (.getfield 19, 3) := by decide +kernel
theorem dX2_putIn_76 : decode cX2_putIn 76 = .ok (.iload_n 1, 1) := by decide +kernel
theorem dX2_putIn_77 : decode cX2_putIn 77 = .ok (.iload_n 2, 1) := by decide +kernel
theorem dX2_putIn_78 : decode cX2_putIn 78 = .ok (.invokevirtual 140, 3) := by decide +kernel
theorem dX2_putIn_81 : decode cX2_putIn 81 = .ok (.aload_n 0, 1) := by decide +kernel
theorem dX2_putIn_82 : decode cX2_putIn 82 = .ok (.getfield 19, 3) := by decide +kernel
theorem dX2_putIn_85 : decode cX2_putIn 85 = .ok (.iload_n 3, 1) := by decide +kernel
theorem dX2_putIn_86 : decode cX2_putIn 86 = .ok (.invokevirtual 110, 3) := by decide +kernel
theorem dX2_putIn_89 : decode cX2_putIn 89 = .ok (.ireturn, 1) := by decide +kernel
theorem dX2_takeOut_0 : decode cX2_takeOut 0 = .ok (.aload_n 0, 1) := by decide +kernel
theorem dX2_takeOut_1 : decode cX2_takeOut 1 = .ok (.getfield 12, 3) := by decide +kernel
theorem dX2_takeOut_4 : decode cX2_takeOut 4 = .ok (.iload_n 1, 1) := by decide +kernel
theorem dX2_takeOut_5 : decode cX2_takeOut 5 = .ok (.invokevirtual 69, 3) := by decide +kernel
theorem dX2_takeOut_8 : decode cX2_takeOut 8 = .ok (.iload_n 2, 1) := by decide +kernel
theorem dX2_takeOut_9 : decode cX2_takeOut 9 = .ok (.iconst 1, 1) := by decide +kernel
theorem dX2_takeOut_10 : decode cX2_takeOut 10 = .ok (.bipush 30, 2) := by decide +kernel
theorem dX2_takeOut_12 : decode cX2_takeOut 12 = .ok (.invokestatic 45, 3) := by decide +kernel
theorem dX2_takeOut_15 : decode cX2_takeOut 15 = .ok (.istore_n 3, 1) := by decide +kernel
theorem dX2_takeOut_16 : decode cX2_takeOut 16 = .ok (.iload_n 3, 1) := by decide +kernel
theorem dX2_takeOut_17 : decode cX2_takeOut 17 = .ok (.ifCond .eq 9, 3) := by decide +kernel
theorem dX2_takeOut_20 : decode cX2_takeOut 20 = .ok (.aload_n 0, 1) := by decide +kernel
theorem dX2_takeOut_21 : decode cX2_takeOut 21 = .ok (.iload_n 3, 1) := by decide +kernel
theorem dX2_takeOut_22 : decode cX2_takeOut 22 = .ok (.invokevirtual 53, 3) := by decide +kernel
theorem dX2_takeOut_25 : decode cX2_takeOut 25 = .ok (.ireturn, 1) := by decide +kernel
theorem dX2_takeOut_26 : decode cX2_takeOut 26 = .ok (.aload_n 0, 1) := by decide +kernel
theorem dX2_takeOut_27 : decode cX2_takeOut 27 = .ok (.getfield 19, 3) := by decide +kernel
theorem dX2_takeOut_30 : decode cX2_takeOut 30 = .ok (.aload_n 0, 1) := by decide +kernel
theorem dX2_takeOut_31 : decode cX2_takeOut 31 = .ok (.getfield 12, 3) := by decide +kernel
theorem dX2_takeOut_34 : decode cX2_takeOut 34 = .ok (.invokevirtual 106, 3) := by decide +kernel
theorem dX2_takeOut_37 : decode cX2_takeOut 37 = .ok (.aload_n 0, 1) := by decide +kernel
theorem dX2_takeOut_38 : decode cX2_takeOut 38 = .ok (.getfield 19, 3) := by decide +kernel
theorem dX2_takeOut_41 : decode cX2_takeOut 41 = .ok (.iload_n 1, 1) := by decide +kernel
theorem dX2_takeOut_42 : decode cX2_takeOut 42 = .ok (.invokevirtual 144, 3) := by decide +kernel
theorem dX2_takeOut_45 : decode cX2_takeOut 45 = .ok (.aload_n 0, 1) := by decide +kernel
theorem dX2_takeOut_46 : decode cX2_takeOut 46 = .ok (.getfield 19, 3) := by decide +kernel
theorem dX2_takeOut_49 : decode cX2_takeOut 49 = .ok (.iload_n 2, 1) := by decide +kernel
theorem dX2_takeOut_50 : decode cX2_takeOut 50 = .ok (.invokevirtual 110, 3) := by decide +kernel
theorem dX2_takeOut_53 : decode cX2_takeOut 53 = .ok (.istore 4, 2) := by decide +kernel
theorem dX2_takeOut_55 : decode cX2_takeOut 55 = .ok (.iload 4, 2) := by decide +kernel
theorem dX2_takeOut_57 : decode cX2_takeOut 57 = .ok (.aload_n 0, 1) := by decide +kernel
theorem dX2_takeOut_58 : decode cX2_takeOut 58 = .ok (.getfield 19, 3) := by decide +kernel
theorem dX2_takeOut_61 : decode cX2_takeOut 61 = .ok (.iload_n 1, 1) := by decide +kernel
theorem dX2_takeOut_62 : decode cX2_takeOut 62 = .ok (.invokevirtual 148, 3) := by decide +kernel
theorem dX2_takeOut_65 : decode cX2_takeOut 65 = .ok (.isub, 1) := by decide +kernel
theorem dX2_takeOut_66 : decode cX2_takeOut 66 = .ok (.ireturn, 1) := by decide +kernel
theorem dX2_row_0 : decode cX2_row 0 = .ok (.iconst 1, 1) := by decide +kernel
theorem dX2_row_1 : decode cX2_row 1 = .ok (.iload_n 1, 1) := by decide +kernel
theorem dX2_row_2 : decode cX2_row 2 = .ok (.iconst 0, 1) := by decide +kernel
theorem dX2_row_3 : decode cX2_row 3 = .ok (.bipush 9, 2) := by decide +kernel
theorem dX2_row_5 : decode cX2_row 5 = .ok (.invokestatic 45, 3) := by decide +kernel
theorem dX2_row_8 : decode cX2_row 8 = .ok (.istore_n 2, 1) := by decide +kernel
theorem dX2_row_9 : decode cX2_row 9 = .ok (.iload_n 2, 1) := by decide +kernel
theorem dX2_row_10 : decode cX2_row 10 = .ok (.ifCond .ne 18, 3) := by decide +kernel
theorem dX2_row_13 : decode cX2_row 13 = .ok (.aload_n 0, 1) := by decide +kernel
theorem dX2_row_14 : decode cX2_row 14 = .ok (.getfield 151, 3) := by decide +kernel
theorem dX2_row_17 : decode cX2_row 17 = .ok (.aload_n 0, 1) := by decide +kernel
theorem dX2_row_18 : decode cX2_row 18 = .ok (.getfield 39, 3) := by decide +kernel
theorem dX2_row_21 : decode cX2_row 21 = .ok (.arraylength, 1) := by decide +kernel
theorem dX2_row_22 : decode cX2_row 22 = .ok (.if_icmp .lt 6, 3) := by decide +kernel
theorem dX2_row_25 : decode cX2_row 25 = .ok (.bipush (-6), 2) := by decide +kernel
theorem dX2_row_27 : decode cX2_row 27 = .ok (.istore_n 2, 1) := by decide +kernel
theorem dX2_row_28 : decode cX2_row 28 = .ok (.iload_n 2, 1) := by decide +kernel
theorem dX2_row_29 : decode cX2_row 29 = .ok (.ifCond .eq 9, 3) := by decide +kernel
theorem dX2_row_32 : decode cX2_row 32 = .ok (.aload_n 0, 1) := by decide +kernel
theorem dX2_row_33 : decode cX2_row 33 = .ok (.iload_n 2, 1) := by decide +kernel
theorem dX2_row_34 : decode cX2_row 34 = .ok (.invokevirtual 53, 3) := by decide +kernel
theorem dX2_row_37 : decode cX2_row 37 = .ok (.ireturn, 1) := by decide +kernel
theorem dX2_row_38 : decode cX2_row 38 = .ok (.aload_n 0, 1) := by decide +kernel
theorem dX2_row_39 : decode cX2_row 39 = .ok (.getfield 39, 3) := by decide +kernel
theorem dX2_row_42 : decode cX2_row 42 = .ok (.aload_n 0, 1) := by decide +kernel
theorem dX2_row_43 : decode cX2_row 43 = .ok (.getfield 151, 3) := by decide +kernel
theorem dX2_row_46 : decode cX2_row 46 = .ok (.iload_n 1, 1) := by decide +kernel
theorem dX2_row_47 : decode cX2_row 47 = .ok (.iastore, 1) := by decide +kernel
theorem dX2_row_48 : decode cX2_row 48 = .ok (.aload_n 0, 1) := by decide +kernel
theorem dX2_row_49 : decode cX2_row 49 = .ok (.dup, 1) := by decide +kernel
theorem dX2_row_50 : decode cX2_row 50 = .ok (.getfield 151, 3) := by decide +kernel
theorem dX2_row_53 : decode cX2_row 53 = .ok (.iconst 1, 1) := by decide +kernel
theorem dX2_row_54 : decode cX2_row 54 = .ok (.iadd, 1) := by decide +kernel
theorem dX2_row_55 : decode cX2_row 55 = .ok (.putfield 151, 3) := by decide +kernel
theorem dX2_row_58 : decode cX2_row 58 = .ok (.aload_n 0, 1) := by decide +kernel
theorem dX2_row_59 : decode cX2_row 59 = .ok (.getfield 151, 3) := by decide +kernel
theorem dX2_row_62 : decode cX2_row 62 = .ok (.ireturn, 1) := by decide +kernel
theorem dX2_fitting_0 : decode cX2_fitting 0 = .ok (.aload_n 0, 1) := by decide +kernel
theorem dX2_fitting_1 : decode cX2_fitting 1 = .ok (.getfield 12, 3) := by decide +kernel
theorem dX2_fitting_4 : decode cX2_fitting 4 = .ok (.iload_n 1, 1) := by decide +kernel
theorem dX2_fitting_5 : decode cX2_fitting 5 = .ok (.invokevirtual 69, 3) := by decide +kernel
theorem dX2_fitting_8 : decode cX2_fitting 8 = .ok (.iload_n 2, 1) := by decide +kernel
theorem dX2_fitting_9 : decode cX2_fitting 9 = .ok (.iconst 1, 1) := by decide +kernel
theorem dX2_fitting_10 : decode cX2_fitting 10 = .ok (.bipush 30, 2) := by decide +kernel
theorem dX2_fitting_12 : decode cX2_fitting 12 = .ok (.invokestatic 45, 3) := by decide +kernel
theorem dX2_fitting_15 : decode cX2_fitting 15 = .ok (.istore_n 3, 1) := by decide +kernel
theorem dX2_fitting_16 : decode cX2_fitting 16 = .ok (.iload_n 3, 1) := by decide +kernel
theorem dX2_fitting_17 : decode cX2_fitting 17 = .ok (.ifCond .ne 20, 3) := by decide +kernel
theorem dX2_fitting_20 : decode cX2_fitting 20 = .ok (.aload_n 0, 1) := by decide +kernel
theorem dX2_fitting_21 : decode cX2_fitting 21 = .ok (.getfield 151, 3) := by decide +kernel
theorem dX2_fitting_24 : decode cX2_fitting 24 = .ok (.aload_n 0, 1) := by decide +kernel
theorem dX2_fitting_25 : decode cX2_fitting 25 = .ok (.getfield 12, 3) := by decide +kernel
theorem dX2_fitting_28 : decode cX2_fitting 28 = .ok (.getfield 120, 3) := by decide +kernel
theorem dX2_fitting_31 : decode cX2_fitting 31 = .ok (.if_icmp .eq 6, 3) := by decide +kernel
theorem dX2_fitting_34 : decode cX2_fitting 34 = .ok (.bipush (-3), 2) := by decide +kernel
theorem dX2_fitting_36 : decode cX2_fitting 36 = .ok (.istore_n 3, 1) := by decide +kernel
theorem dX2_fitting_37 : decode cX2_fitting 37 = .ok (.iload_n 3, 1) := by decide +kernel
theorem dX2_fitting_38 : decode cX2_fitting 38 = .ok (.ifCond .eq 9, 3) := by decide +kernel
theorem dX2_fitting_41 : decode cX2_fitting 41 = .ok (.aload_n 0, 1) := by decide +kernel
theorem dX2_fitting_42 : decode cX2_fitting 42 = .ok (.iload_n 3, 1) := by decide +kernel
theorem dX2_fitting_43 : decode cX2_fitting 43 = .ok (.invokevirtual 53, 3) := by decide +kernel
theorem dX2_fitting_46 : decode cX2_fitting 46 = .ok (.ireturn, 1) := by decide +kernel
theorem dX2_fitting_47 : decode cX2_fitting 47 = .ok (.iconst 0, 1) := by decide +kernel
theorem dX2_fitting_48 : decode cX2_fitting 48 = .ok (.istore 4, 2) := by decide +kernel
theorem dX2_fitting_50 : decode cX2_fitting 50 = .ok (.iconst 0, 1) := by decide +kernel
theorem dX2_fitting_51 : decode cX2_fitting 51 = .ok (.istore 5, 2) := by decide +kernel
theorem dX2_fitting_53 : decode cX2_fitting 53 = .ok (.iload 5, 2) := by decide +kernel
theorem dX2_fitting_55 : decode cX2_fitting 55 = .ok (.bipush 6, 2) := by decide +kernel
theorem dX2_fitting_57 : decode cX2_fitting 57 = .ok (.if_icmp .ge 62, 3) := by decide +kernel
theorem dX2_fitting_60 : decode cX2_fitting 60 = .ok (.aload_n 0, 1) := by decide +kernel
theorem dX2_fitting_61 : decode cX2_fitting 61 = .ok (.getfield 19, 3) := by decide +kernel
theorem dX2_fitting_64 : decode cX2_fitting 64 = .ok (.aload_n 0, 1) := by decide +kernel
theorem dX2_fitting_65 : decode cX2_fitting 65 = .ok (.getfield 12, 3) := by decide +kernel
theorem dX2_fitting_68 : decode cX2_fitting 68 = .ok (.invokevirtual 106, 3) := by decide +kernel
theorem dX2_fitting_71 : decode cX2_fitting 71 = .ok (.aload_n 0, 1) := by decide +kernel
theorem dX2_fitting_72 : decode cX2_fitting 72 = .ok (.getfield 19, 3) := by decide +kernel
theorem dX2_fitting_75 : decode cX2_fitting 75 = .ok (.getfield 73, 3) := by decide +kernel
theorem dX2_fitting_78 : decode cX2_fitting 78 = .ok (.iload_n 1, 1) := by decide +kernel
theorem dX2_fitting_79 : decode cX2_fitting 79 = .ok (.iload 5, 2) := by decide +kernel
theorem dX2_fitting_81 : decode cX2_fitting 81 = .ok (.iastore, 1) := by decide +kernel
theorem dX2_fitting_82 : decode cX2_fitting 82 = .ok (.aload_n 0, 1) := by decide +kernel
theorem dX2_fitting_83 : decode cX2_fitting 83 = .ok (.getfield 19, 3) := by decide +kernel
theorem dX2_fitting_86 : decode cX2_fitting 86 = .ok (.iload_n 2, 1) := by decide +kernel
theorem dX2_fitting_87 : decode cX2_fitting 87 = .ok (.invokevirtual 110, 3) := by decide +kernel
theorem dX2_fitting_90 : decode cX2_fitting 90 = .ok (.pop, 1) := by decide +kernel
theorem dX2_fitting_91 : decode cX2_fitting 91 = .ok (.aload_n 0, 1) := by decide +kernel
theorem dX2_fitting_92 : decode cX2_fitting 92 = .ok (.aload_n 0, 1) := by decide +kernel
theorem dX2_fitting_93 : decode cX2_fitting 93 = .ok (.getfield 19, 3) := by decide +kernel
theorem dX2_fitting_96 : decode cX2_fitting 96 = .ok (.invokevirtual 154, 3) := by decide +kernel
theorem dX2_fitting_99 : decode cX2_fitting 99 = .ok (.bipush (-9), 2) := by decide +kernel
theorem dX2_fitting_101 : decode cX2_fitting 101 = .ok (.if_icmp .ne 12, 3) := by decide +kernel
theorem dX2_fitting_104 : decode cX2_fitting 104 = .ok (.iload 4, 2) := by decide +kernel
theorem dX2_fitting_106 : decode cX2_fitting 106 = .ok (.iconst 1, 1) := by decide +kernel
theorem dX2_fitting_107 : decode cX2_fitting 107 = .ok (.iload 5, 2) := by decide +kernel
theorem dX2_fitting_109 : decode cX2_fitting 109 = .ok (.ishl, 1) := by decide +kernel
theorem dX2_fitting_110 : decode cX2_fitting 110 = .ok (.ior, 1) := by decide +kernel
theorem dX2_fitting_111 : decode cX2_fitting 111 = .ok (.istore 4, 2) := by decide +kernel
theorem dX2_fitting_113 : decode cX2_fitting 113 = .ok (.iinc 5 1, 3) := by decide +kernel
theorem dX2_fitting_116 : decode cX2_fitting 116 = .ok (.goto (-63), 3) := by decide +kernel
theorem dX2_fitting_119 : decode cX2_fitting 119 = .ok (.iload 4, 2) := by decide +kernel
theorem dX2_fitting_121 : decode cX2_fitting 121 = .ok (.ireturn, 1) := by decide +kernel
theorem dX2_judge_0 : decode cX2_judge 0 = .ok (.aload_n 0, 1) := by decide +kernel
theorem dX2_judge_1 : decode cX2_judge 1 = .ok (.aload_n 0, 1) := by decide +kernel
theorem dX2_judge_2 : decode cX2_judge 2 = .ok (.getfield 12, 3) := by decide +kernel
theorem dX2_judge_5 : decode cX2_judge 5 = .ok (.invokevirtual 154, 3) := by decide +kernel
theorem dX2_judge_8 : decode cX2_judge 8 = .ok (.istore_n 1, 1) := by decide +kernel
theorem dX2_judge_9 : decode cX2_judge 9 = .ok (.aload_n 0, 1) := by decide +kernel
theorem dX2_judge_10 : decode cX2_judge 10 = .ok (.iconst 0, 1) := by decide +kernel
theorem dX2_judge_11 : decode cX2_judge 11 = .ok (.putfield 151, 3) := by decide +kernel
theorem dX2_judge_14 : decode cX2_judge 14 = .ok (.iload_n 1, 1) := by decide +kernel
theorem dX2_judge_15 : decode cX2_judge 15 = .ok (.ireturn, 1) := by decide +kernel
theorem dX2_seeds_0 : decode cX2_seeds 0 = .ok (.iconst 1, 1) := by decide +kernel
theorem dX2_seeds_1 : decode cX2_seeds 1 = .ok (.iload_n 1, 1) := by decide +kernel
theorem dX2_seeds_2 : decode cX2_seeds 2 = .ok (.iconst 1, 1) := by decide +kernel
theorem dX2_seeds_3 : decode cX2_seeds 3 = .ok (.bipush 30, 2) := by decide +kernel
theorem dX2_seeds_5 : decode cX2_seeds 5 = .ok (.invokestatic 45, 3) := by decide +kernel
theorem dX2_seeds_8 : decode cX2_seeds 8 = .ok (.istore_n 3, 1) := by decide +kernel
theorem dX2_seeds_9 : decode cX2_seeds 9 = .ok (.iload_n 3, 1) := by decide +kernel
theorem dX2_seeds_10 : decode cX2_seeds 10 = .ok (.ifCond .eq 9, 3) := by decide +kernel
theorem dX2_seeds_13 : decode cX2_seeds 13 = .ok (.aload_n 0, 1) := by decide +kernel
theorem dX2_seeds_14 : decode cX2_seeds 14 = .ok (.iload_n 3, 1) := by decide +kernel
theorem dX2_seeds_15 : decode cX2_seeds 15 = .ok (.invokevirtual 53, 3) := by decide +kernel
theorem dX2_seeds_18 : decode cX2_seeds 18 = .ok (.ireturn, 1) := by decide +kernel
theorem dX2_seeds_19 : decode cX2_seeds 19 = .ok (.aload_n 0, 1) := by decide +kernel
theorem dX2_seeds_20 : decode cX2_seeds 20 = .ok (.getfield 19, 3) := by decide +kernel
theorem dX2_seeds_23 : decode cX2_seeds 23 = .ok (.aload_n 0, 1) := by decide +kernel
theorem dX2_seeds_24 : decode cX2_seeds 24 = .ok (.getfield 12, 3) := by decide +kernel
theorem dX2_seeds_27 : decode cX2_seeds 27 = .ok (.invokevirtual 106, 3) := by decide +kernel
theorem dX2_seeds_30 : decode cX2_seeds 30 = .ok (.iload_n 2, 1) := by decide +kernel
theorem dX2_seeds_31 : decode cX2_seeds 31 = .ok (.istore 4, 2) := by decide +kernel
theorem dX2_seeds_33 : decode cX2_seeds 33 = .ok (.iconst 0, 1) := by decide +kernel
theorem dX2_seeds_34 : decode cX2_seeds 34 = .ok (.istore 5, 2) := by decide +kernel
theorem dX2_seeds_36 : decode cX2_seeds 36 = .ok (.iload 5, 2) := by decide +kernel
theorem dX2_seeds_38 : decode cX2_seeds 38 = .ok (.iload_n 1, 1) := by decide +kernel
theorem dX2_seeds_39 : decode cX2_seeds 39 = .ok (.if_icmp .ge 68, 3) := by decide +kernel
theorem dX2_seeds_42 : decode cX2_seeds 42 = .ok (.iconst 0, 1) := by decide +kernel
theorem dX2_seeds_43 : decode cX2_seeds 43 = .ok (.istore 6, 2) := by decide +kernel
theorem dX2_seeds_45 : decode cX2_seeds 45 = .ok (.iload 6, 2) := by decide +kernel
theorem dX2_seeds_47 : decode cX2_seeds 47 = .ok (.aload_n 0, 1) := by decide +kernel
theorem dX2_seeds_48 : decode cX2_seeds 48 = .ok (.getfield 19, 3) := by decide +kernel
theorem dX2_seeds_51 : decode cX2_seeds 51 = .ok (.getfield 120, 3) := by decide +kernel
theorem dX2_seeds_54 : decode cX2_seeds 54 = .ok (.if_icmp .ge 40, 3) := by decide +kernel
theorem dX2_seeds_57 : decode cX2_seeds 57 = .ok (.iload 4, 2) := by decide +kernel
theorem dX2_seeds_59 : decode cX2_seeds 59 = .ok (.ldc 158, 2) := by decide +kernel
theorem dX2_seeds_61 : decode cX2_seeds 61 = .ok (.imul, 1) := by decide +kernel
theorem dX2_seeds_62 : decode cX2_seeds 62 = .ok (.ldc 159, 2) := by decide +kernel
theorem dX2_seeds_64 : decode cX2_seeds 64 = .ok (.iadd, 1) := by decide +kernel
theorem dX2_seeds_65 : decode cX2_seeds 65 = .ok (.istore 4, 2) := by decide +kernel
theorem dX2_seeds_67 : decode cX2_seeds 67 = .ok (.aload_n 0, 1) := by decide +kernel
theorem dX2_seeds_68 : decode cX2_seeds 68 = .ok (.getfield 19, 3) := by decide +kernel
theorem dX2_seeds_71 : decode cX2_seeds 71 = .ok (.getfield 79, 3) := by decide +kernel
theorem dX2_seeds_74 : decode cX2_seeds 74 = .ok (.iload 6, 2) := by decide +kernel
theorem dX2_seeds_76 : decode cX2_seeds 76 = .ok (.iload 4, 2) := by decide +kernel
theorem dX2_seeds_78 : decode cX2_seeds 78 = .ok (.ldc 160, 2) := by decide +kernel
theorem dX2_seeds_80 : decode cX2_seeds 80 = .ok (.iand, 1) := by decide +kernel
theorem dX2_seeds_81 : decode cX2_seeds 81 = .ok (.sipush 256, 3) := by decide +kernel
theorem dX2_seeds_84 : decode cX2_seeds 84 = .ok (.idiv, 1) := by decide +kernel
theorem dX2_seeds_85 : decode cX2_seeds 85 = .ok (.iconst 4, 1) := by decide +kernel
theorem dX2_seeds_86 : decode cX2_seeds 86 = .ok (.irem, 1) := by decide +kernel
theorem dX2_seeds_87 : decode cX2_seeds 87 = .ok (.iastore, 1) := by decide +kernel
theorem dX2_seeds_88 : decode cX2_seeds 88 = .ok (.iinc 6 1, 3) := by decide +kernel
theorem dX2_seeds_91 : decode cX2_seeds 91 = .ok (.goto (-46), 3) := by decide +kernel
theorem dX2_seeds_94 : decode cX2_seeds 94 = .ok (.aload_n 0, 1) := by decide +kernel
theorem dX2_seeds_95 : decode cX2_seeds 95 = .ok (.getfield 19, 3) := by decide +kernel
theorem dX2_seeds_98 : decode cX2_seeds 98 = .ok (.invokevirtual 100, 3) := by decide +kernel
theorem dX2_seeds_101 : decode cX2_seeds 101 = .ok (.iinc 5 1, 3) := by decide +kernel
theorem dX2_seeds_104 : decode cX2_seeds 104 = .ok (.goto (-68), 3) := by decide +kernel
theorem dX2_seeds_107 : decode cX2_seeds 107 = .ok (.aload_n 0, 1) := by decide +kernel
theorem dX2_seeds_108 : decode cX2_seeds 108 = .ok (.getfield 19, 3) := by decide +kernel
theorem dX2_seeds_111 : decode cX2_seeds 111 = .ok (.invokevirtual 103, 3) := by decide +kernel
theorem dX2_seeds_114 : decode cX2_seeds 114 = .ok (.ireturn, 1) := by decide +kernel
theorem dX2_image_0 : decode cX2_image 0 = .ok (.aload_n 0, 1) := by decide +kernel
theorem dX2_image_1 : decode cX2_image 1 = .ok (.getfield 16, 3) := by decide +kernel
theorem dX2_image_4 : decode cX2_image 4 = .ok (.aload_n 0, 1) := by decide +kernel
theorem dX2_image_5 : decode cX2_image 5 = .ok (.getfield 12, 3) := by decide +kernel
theorem dX2_image_8 : decode cX2_image 8 = .ok (.invokevirtual 106, 3) := by decide +kernel
theorem dX2_image_11 : decode cX2_image 11 = .ok (.aload_n 0, 1) := by decide +kernel
theorem dX2_image_12 : decode cX2_image 12 = .ok (.iconst 1, 1) := by decide +kernel
theorem dX2_image_13 : decode cX2_image 13 = .ok (.putfield 161, 3) := by decide +kernel
theorem dX2_image_16 : decode cX2_image 16 = .ok (.aload_n 0, 1) := by decide +kernel
theorem dX2_image_17 : decode cX2_image 17 = .ok (.getfield 16, 3) := by decide +kernel
theorem dX2_image_20 : decode cX2_image 20 = .ok (.getfield 97, 3) := by decide +kernel
theorem dX2_image_23 : decode cX2_image 23 = .ok (.ireturn, 1) := by decide +kernel
theorem dX2_on_0 : decode cX2_on 0 = .ok (.aload_n 0, 1) := by decide +kernel
theorem dX2_on_1 : decode cX2_on 1 = .ok (.getfield 161, 3) := by decide +kernel
theorem dX2_on_4 : decode cX2_on 4 = .ok (.ifCond .ne 10, 3) := by decide +kernel
theorem dX2_on_7 : decode cX2_on 7 = .ok (.aload_n 0, 1) := by decide +kernel
theorem dX2_on_8 : decode cX2_on 8 = .ok (.bipush (-3), 2) := by decide +kernel
theorem dX2_on_10 : decode cX2_on 10 = .ok (.invokevirtual 53, 3) := by decide +kernel
theorem dX2_on_13 : decode cX2_on 13 = .ok (.ireturn, 1) := by decide +kernel
theorem dX2_on_14 : decode cX2_on 14 = .ok (.aload_n 0, 1) := by decide +kernel
theorem dX2_on_15 : decode cX2_on 15 = .ok (.getfield 12, 3) := by decide +kernel
theorem dX2_on_18 : decode cX2_on 18 = .ok (.aload_n 0, 1) := by decide +kernel
theorem dX2_on_19 : decode cX2_on 19 = .ok (.getfield 16, 3) := by decide +kernel
theorem dX2_on_22 : decode cX2_on 22 = .ok (.invokevirtual 106, 3) := by decide +kernel
theorem dX2_on_25 : decode cX2_on 25 = .ok (.aload_n 0, 1) := by decide +kernel
theorem dX2_on_26 : decode cX2_on 26 = .ok (.getfield 12, 3) := by decide +kernel
theorem dX2_on_29 : decode cX2_on 29 = .ok (.getfield 97, 3) := by decide +kernel
theorem dX2_on_32 : decode cX2_on 32 = .ok (.ireturn, 1) := by decide +kernel
theorem dX2_count_0 : decode cX2_count 0 = .ok (.iload_n 1, 1) := by decide +kernel
theorem dX2_count_1 : decode cX2_count 1 = .ok (.bipush 10, 2) := by decide +kernel
theorem dX2_count_3 : decode cX2_count 3 = .ok (.isub, 1) := by decide +kernel
theorem dX2_count_4 : decode cX2_count 4 = .ok (.istore_n 2, 1) := by decide +kernel
theorem dX2_count_5 : decode cX2_count 5 = .ok (.iload_n 2, 1) := by decide +kernel
theorem dX2_count_6 : decode cX2_count 6 = .ok (.iconst 1, 1) := by decide +kernel
theorem dX2_count_7 : decode cX2_count 7 = .ok (.if_icmp .lt 16, 3) := by decide +kernel
theorem dX2_count_10 : decode cX2_count 10 = .ok (.iload_n 2, 1) := by decide +kernel
theorem dX2_count_11 : decode cX2_count 11 = .ok (.bipush 6, 2) := by decide +kernel
theorem dX2_count_13 : decode cX2_count 13 = .ok (.if_icmp .gt 10, 3) := by decide +kernel
theorem dX2_count_16 : decode cX2_count 16 = .ok (.aload_n 0, 1) := by decide +kernel
theorem dX2_count_17 : decode cX2_count 17 = .ok (.getfield 42, 3) := by decide +kernel
theorem dX2_count_20 : decode cX2_count 20 = .ok (.iload_n 2, 1) := by decide +kernel
theorem dX2_count_21 : decode cX2_count 21 = .ok (.iaload, 1) := by decide +kernel
theorem dX2_count_22 : decode cX2_count 22 = .ok (.ireturn, 1) := by decide +kernel
theorem dX2_count_23 : decode cX2_count 23 = .ok (.iload_n 1, 1) := by decide +kernel
theorem dX2_count_24 : decode cX2_count 24 = .ok (.tableswitch 85 0 5 #[40, 48, 56, 64, 72, 77], 40) := by decide +kernel
theorem dX2_count_64 : decode cX2_count 64 = .ok (.aload_n 0, 1) := by decide +kernel
theorem dX2_count_65 : decode cX2_count 65 = .ok (.getfield 12, 3) := by decide +kernel
theorem dX2_count_68 : decode cX2_count 68 = .ok (.getfield 120, 3) := by decide +kernel
theorem dX2_count_71 : decode cX2_count 71 = .ok (.ireturn, 1) := by decide +kernel
theorem dX2_count_72 : decode cX2_count 72 = .ok (.aload_n 0, 1) := by decide +kernel
theorem dX2_count_73 : decode cX2_count 73 = .ok (.getfield 12, 3) := by decide +kernel
theorem dX2_count_76 : decode cX2_count 76 = .ok (.getfield 97, 3) := by decide +kernel
theorem dX2_count_79 : decode cX2_count 79 = .ok (.ireturn, 1) := by decide +kernel
theorem dX2_count_80 : decode cX2_count 80 = .ok (.aload_n 0, 1) := by decide +kernel
theorem dX2_count_81 : decode cX2_count 81 = .ok (.getfield 12, 3) := by decide +kernel
theorem dX2_count_84 : decode cX2_count 84 = .ok (.invokevirtual 103, 3) := by decide +kernel
theorem dX2_count_87 : decode cX2_count 87 = .ok (.ireturn, 1) := by decide +kernel
theorem dX2_count_88 : decode cX2_count 88 = .ok (.aload_n 0, 1) := by decide +kernel
theorem dX2_count_89 : decode cX2_count 89 = .ok (.getfield 12, 3) := by decide +kernel
theorem dX2_count_92 : decode cX2_count 92 = .ok (.invokevirtual 165, 3) := by decide +kernel
theorem dX2_count_95 : decode cX2_count 95 = .ok (.ireturn, 1) := by decide +kernel
theorem dX2_count_96 : decode cX2_count 96 = .ok (.aload_n 0, 1) := by decide +kernel
theorem dX2_count_97 : decode cX2_count 97 = .ok (.getfield 151, 3) := by decide +kernel
theorem dX2_count_100 : decode cX2_count 100 = .ok (.ireturn, 1) := by decide +kernel
theorem dX2_count_101 : decode cX2_count 101 = .ok (.aload_n 0, 1) := by decide +kernel
theorem dX2_count_102 : decode cX2_count 102 = .ok (.getfield 28, 3) := by decide +kernel
theorem dX2_count_105 : decode cX2_count 105 = .ok (.getfield 61, 3) := by decide +kernel
theorem dX2_count_108 : decode cX2_count 108 = .ok (.ireturn, 1) := by decide +kernel
theorem dX2_count_109 : decode cX2_count 109 = .ok (.bipush (-9), 2) := by decide +kernel
theorem dX2_count_111 : decode cX2_count 111 = .ok (.ireturn, 1) := by decide +kernel
theorem dX2_refuse_0 : decode cX2_refuse 0 = .ok (.iload_n 1, 1) := by decide +kernel
theorem dX2_refuse_1 : decode cX2_refuse 1 = .ok (.ineg, 1) := by decide +kernel
theorem dX2_refuse_2 : decode cX2_refuse 2 = .ok (.istore_n 2, 1) := by decide +kernel
theorem dX2_refuse_3 : decode cX2_refuse 3 = .ok (.iload_n 2, 1) := by decide +kernel
theorem dX2_refuse_4 : decode cX2_refuse 4 = .ok (.iconst 1, 1) := by decide +kernel
theorem dX2_refuse_5 : decode cX2_refuse 5 = .ok (.if_icmp .lt 19, 3) := by decide +kernel
theorem dX2_refuse_8 : decode cX2_refuse 8 = .ok (.iload_n 2, 1) := by decide +kernel
theorem dX2_refuse_9 : decode cX2_refuse 9 = .ok (.bipush 6, 2) := by decide +kernel
theorem dX2_refuse_11 : decode cX2_refuse 11 = .ok (.if_icmp .gt 13, 3) := by decide +kernel
theorem dX2_refuse_14 : decode cX2_refuse 14 = .ok (.aload_n 0, 1) := by decide +kernel
theorem dX2_refuse_15 : decode cX2_refuse 15 = .ok (.getfield 42, 3) := by decide +kernel
theorem dX2_refuse_18 : decode cX2_refuse 18 = .ok (.iload_n 2, 1) := by decide +kernel
theorem dX2_refuse_19 : decode cX2_refuse 19 = .ok (.dup2, 1) := by decide +kernel
theorem dX2_refuse_20 : decode cX2_refuse 20 = .ok (.iaload, 1) := by decide +kernel
theorem dX2_refuse_21 : decode cX2_refuse 21 = .ok (.iconst 1, 1) := by decide +kernel
theorem dX2_refuse_22 : decode cX2_refuse 22 = .ok (.iadd, 1) := by decide +kernel
theorem dX2_refuse_23 : decode cX2_refuse 23 = .ok (.iastore, 1) := by decide +kernel
theorem dX2_refuse_24 : decode cX2_refuse 24 = .ok (.iload_n 1, 1) := by decide +kernel
theorem dX2_refuse_25 : decode cX2_refuse 25 = .ok (.ireturn, 1) := by decide +kernel
theorem dX2_refusalOf_0 : decode cX2_refusalOf 0 = .ok (.iload_n 0, 1) := by decide +kernel
theorem dX2_refusalOf_1 : decode cX2_refusalOf 1 = .ok (.ifCond .ne 5, 3) := by decide +kernel
theorem dX2_refusalOf_4 : decode cX2_refusalOf 4 = .ok (.iconst (-1), 1) := by decide +kernel
theorem dX2_refusalOf_5 : decode cX2_refusalOf 5 = .ok (.ireturn, 1) := by decide +kernel
theorem dX2_refusalOf_6 : decode cX2_refusalOf 6 = .ok (.iload_n 1, 1) := by decide +kernel
theorem dX2_refusalOf_7 : decode cX2_refusalOf 7 = .ok (.iload_n 2, 1) := by decide +kernel
theorem dX2_refusalOf_8 : decode cX2_refusalOf 8 = .ok (.if_icmp .ge 6, 3) := by decide +kernel
theorem dX2_refusalOf_11 : decode cX2_refusalOf 11 = .ok (.bipush (-4), 2) := by decide +kernel
theorem dX2_refusalOf_13 : decode cX2_refusalOf 13 = .ok (.ireturn, 1) := by decide +kernel
theorem dX2_refusalOf_14 : decode cX2_refusalOf 14 = .ok (.iload_n 1, 1) := by decide +kernel
theorem dX2_refusalOf_15 : decode cX2_refusalOf 15 = .ok (.iload_n 3, 1) := by decide +kernel
theorem dX2_refusalOf_16 : decode cX2_refusalOf 16 = .ok (.if_icmp .le 8, 3) := by decide +kernel
theorem dX2_refusalOf_19 : decode cX2_refusalOf 19 = .ok (.bipush (-6), 2) := by decide +kernel
theorem dX2_refusalOf_21 : decode cX2_refusalOf 21 = .ok (.goto 4, 3) := by decide +kernel
theorem dX2_refusalOf_24 : decode cX2_refusalOf 24 = .ok (.iconst 0, 1) := by decide +kernel
theorem dX2_refusalOf_25 : decode cX2_refusalOf 25 = .ok (.ireturn, 1) := by decide +kernel
theorem dX2_readTown_0 : decode cX2_readTown 0 = .ok (.aload_n 0, 1) := by decide +kernel
theorem dX2_readTown_1 : decode cX2_readTown 1 = .ok (.getfield 28, 3) := by decide +kernel
theorem dX2_readTown_4 : decode cX2_readTown 4 = .ok (.invokevirtual 168, 3) := by decide +kernel
theorem dX2_readTown_7 : decode cX2_readTown 7 = .ok (.istore_n 1, 1) := by decide +kernel
theorem dX2_readTown_8 : decode cX2_readTown 8 = .ok (.iload_n 1, 1) := by decide +kernel
theorem dX2_readTown_9 : decode cX2_readTown 9 = .ok (.iconst (-1), 1) := by decide +kernel
theorem dX2_readTown_10 : decode cX2_readTown 10 = .ok (.if_icmp .eq 9, 3) := by decide +kernel
theorem dX2_readTown_13 : decode cX2_readTown 13 = .ok (.sipush (-1000), 3) := by decide +kernel
theorem dX2_readTown_16 : decode cX2_readTown 16 = .ok (.iload_n 1, 1) := by decide +kernel
theorem dX2_readTown_17 : decode cX2_readTown 17 = .ok (.isub, 1) := by decide +kernel
theorem dX2_readTown_18 : decode cX2_readTown 18 = .ok (.ireturn, 1) := by decide +kernel
theorem dX2_readTown_19 : decode cX2_readTown 19 = .ok (.aload_n 0, 1) := by decide +kernel
theorem dX2_readTown_20 : decode cX2_readTown 20 = .ok (.getfield 19, 3) := by decide +kernel
theorem dX2_readTown_23 : decode cX2_readTown 23 = .ok (.aload_n 0, 1) := by decide +kernel
theorem dX2_readTown_24 : decode cX2_readTown 24 = .ok (.getfield 12, 3) := by decide +kernel
theorem dX2_readTown_27 : decode cX2_readTown 27 = .ok (.invokevirtual 106, 3) := by decide +kernel
theorem dX2_readTown_30 : decode cX2_readTown 30 = .ok (.iconst 0, 1) := by decide +kernel
theorem dX2_readTown_31 : decode cX2_readTown 31 = .ok (.istore_n 2, 1) := by decide +kernel
theorem dX2_readTown_32 : decode cX2_readTown 32 = .ok (.iconst 0, 1) := by decide +kernel
theorem dX2_readTown_33 : decode cX2_readTown 33 = .ok (.istore_n 3, 1) := by decide +kernel
theorem dX2_readTown_34 : decode cX2_readTown 34 = .ok (.iconst 0, 1) := by decide +kernel
theorem dX2_readTown_35 : decode cX2_readTown 35 = .ok (.istore 4, 2) := by decide +kernel
theorem dX2_readTown_37 : decode cX2_readTown 37 = .ok (.iload 4, 2) := by decide +kernel
theorem dX2_readTown_39 : decode cX2_readTown 39 = .ok (.aload_n 0, 1) := by decide +kernel
theorem dX2_readTown_40 : decode cX2_readTown 40 = .ok (.getfield 28, 3) := by decide +kernel
theorem dX2_readTown_43 : decode cX2_readTown 43 = .ok (.getfield 61, 3) := by decide +kernel
theorem dX2_readTown_46 : decode cX2_readTown 46 = .ok (.if_icmp .ge 45, 3) := by decide +kernel
theorem dX2_readTown_49 : decode cX2_readTown 49 = .ok (.aload_n 0, 1) := by decide +kernel
theorem dX2_readTown_50 : decode cX2_readTown 50 = .ok (.getfield 28, 3) := by decide +kernel
theorem dX2_readTown_53 : decode cX2_readTown 53 = .ok (.iload 4, 2) := by decide +kernel
theorem dX2_readTown_55 : decode cX2_readTown 55 = .ok (.invokevirtual 171, 3) := by decide +kernel
theorem dX2_readTown_58 : decode cX2_readTown 58 = .ok (.bipush 59, 2) := by decide +kernel
theorem dX2_readTown_60 : decode cX2_readTown 60 = .ok (.if_icmp .ne 25, 3) := by decide +kernel
theorem dX2_readTown_63 : decode cX2_readTown 63 = .ok (.aload_n 0, 1) := by decide +kernel
theorem dX2_readTown_64 : decode cX2_readTown 64 = .ok (.iload_n 3, 1) := by decide +kernel
theorem dX2_readTown_65 : decode cX2_readTown 65 = .ok (.invokevirtual 175, 3) := by decide +kernel
theorem dX2_readTown_68 : decode cX2_readTown 68 = .ok (.ifCond .ne 9, 3) := by decide +kernel
theorem dX2_readTown_71 : decode cX2_readTown 71 = .ok (.sipush (-2000), 3) := by decide +kernel
theorem dX2_readTown_74 : decode cX2_readTown 74 = .ok (.iload_n 3, 1) := by decide +kernel
theorem dX2_readTown_75 : decode cX2_readTown 75 = .ok (.isub, 1) := by decide +kernel
theorem dX2_readTown_76 : decode cX2_readTown 76 = .ok (.ireturn, 1) := by decide +kernel
theorem dX2_readTown_77 : decode cX2_readTown 77 = .ok (.iinc 2 1, 3) := by decide +kernel
theorem dX2_readTown_80 : decode cX2_readTown 80 = .ok (.iload 4, 2) := by decide +kernel
theorem dX2_readTown_82 : decode cX2_readTown 82 = .ok (.iconst 1, 1) := by decide +kernel
theorem dX2_readTown_83 : decode cX2_readTown 83 = .ok (.iadd, 1) := by decide +kernel
theorem dX2_readTown_84 : decode cX2_readTown 84 = .ok (.istore_n 3, 1) := by decide +kernel
theorem dX2_readTown_85 : decode cX2_readTown 85 = .ok (.iinc 4 1, 3) := by decide +kernel
theorem dX2_readTown_88 : decode cX2_readTown 88 = .ok (.goto (-51), 3) := by decide +kernel
theorem dX2_readTown_91 : decode cX2_readTown 91 = .ok (.aload_n 0, 1) := by decide +kernel
theorem dX2_readTown_92 : decode cX2_readTown 92 = .ok (.getfield 12, 3) := by decide +kernel
theorem dX2_readTown_95 : decode cX2_readTown 95 = .ok (.aload_n 0, 1) := by decide +kernel
theorem dX2_readTown_96 : decode cX2_readTown 96 = .ok (.getfield 19, 3) := by decide +kernel
theorem dX2_readTown_99 : decode cX2_readTown 99 = .ok (.invokevirtual 106, 3) := by decide +kernel
theorem dX2_readTown_102 : decode cX2_readTown 102 = .ok (.iload_n 2, 1) := by decide +kernel
theorem dX2_readTown_103 : decode cX2_readTown 103 = .ok (.ireturn, 1) := by decide +kernel
theorem dX2_comesToTrial_0 : decode cX2_comesToTrial 0 = .ok (.aload_n 0, 1) := by decide +kernel
theorem dX2_comesToTrial_1 : decode cX2_comesToTrial 1 = .ok (.getfield 28, 3) := by decide +kernel
theorem dX2_comesToTrial_4 : decode cX2_comesToTrial 4 = .ok (.iload_n 1, 1) := by decide +kernel
theorem dX2_comesToTrial_5 : decode cX2_comesToTrial 5 = .ok (.invokevirtual 171, 3) := by decide +kernel
theorem dX2_comesToTrial_8 : decode cX2_comesToTrial 8 = .ok (.lookupswitch 111 #[(109, 83), (115, 28)], 28) := by decide +kernel
theorem dX2_comesToTrial_36 : decode cX2_comesToTrial 36 = .ok (.ldc 178, 2) := by decide +kernel
theorem dX2_comesToTrial_38 : decode cX2_comesToTrial 38 = .ok (.aload_n 0, 1) := by decide +kernel
theorem dX2_comesToTrial_39 : decode cX2_comesToTrial 39 = .ok (.getfield 28, 3) := by decide +kernel
theorem dX2_comesToTrial_42 : decode cX2_comesToTrial 42 = .ok (.iload_n 1, 1) := by decide +kernel
theorem dX2_comesToTrial_43 : decode cX2_comesToTrial 43 = .ok (.iconst 1, 1) := by decide +kernel
theorem dX2_comesToTrial_44 : decode cX2_comesToTrial 44 = .ok (.iadd, 1) := by decide +kernel
theorem dX2_comesToTrial_45 : decode cX2_comesToTrial 45 = .ok (.invokevirtual 171, 3) := by decide +kernel
theorem dX2_comesToTrial_48 : decode cX2_comesToTrial 48 = .ok (.invokevirtual 180, 3) := by decide +kernel
theorem dX2_comesToTrial_51 : decode cX2_comesToTrial 51 = .ok (.istore_n 2, 1) := by decide +kernel
theorem dX2_comesToTrial_52 : decode cX2_comesToTrial 52 = .ok (.aload_n 0, 1) := by decide +kernel
theorem dX2_comesToTrial_53 : decode cX2_comesToTrial 53 = .ok (.getfield 19, 3) := by decide +kernel
theorem dX2_comesToTrial_56 : decode cX2_comesToTrial 56 = .ok (.iload_n 2, 1) := by decide +kernel
theorem dX2_comesToTrial_57 : decode cX2_comesToTrial 57 = .ok (.aload_n 0, 1) := by decide +kernel
theorem dX2_comesToTrial_58 : decode cX2_comesToTrial 58 = .ok (.getfield 28, 3) := by decide +kernel
theorem dX2_comesToTrial_61 : decode cX2_comesToTrial 61 = .ok (.iload_n 1, 1) := by decide +kernel
theorem dX2_comesToTrial_62 : decode cX2_comesToTrial 62 = .ok (.iconst 2, 1) := by decide +kernel
theorem dX2_comesToTrial_63 : decode cX2_comesToTrial 63 = .ok (.iadd, 1) := by decide +kernel
theorem dX2_comesToTrial_64 : decode cX2_comesToTrial 64 = .ok (.invokevirtual 185, 3) := by decide +kernel
theorem dX2_comesToTrial_67 : decode cX2_comesToTrial 67 = .ok (.aload_n 0, 1) := by decide +kernel
theorem dX2_comesToTrial_68 : decode cX2_comesToTrial 68 = .ok (.getfield 28, 3) := by decide +kernel
theorem dX2_comesToTrial_71 : decode cX2_comesToTrial 71 = .ok (.iload_n 1, 1) := by decide +kernel
theorem dX2_comesToTrial_72 : decode cX2_comesToTrial 72 = .ok (.iconst 3, 1) := by decide +kernel
theorem dX2_comesToTrial_73 : decode cX2_comesToTrial 73 = .ok (.iadd, 1) := by decide +kernel
theorem dX2_comesToTrial_74 : decode cX2_comesToTrial 74 = .ok (.invokevirtual 185, 3) := by decide +kernel
theorem dX2_comesToTrial_77 : decode cX2_comesToTrial 77 = .ok (.aload_n 0, 1) := by decide +kernel
theorem dX2_comesToTrial_78 : decode cX2_comesToTrial 78 = .ok (.getfield 28, 3) := by decide +kernel
theorem dX2_comesToTrial_81 : decode cX2_comesToTrial 81 = .ok (.iload_n 1, 1) := by decide +kernel
theorem dX2_comesToTrial_82 : decode cX2_comesToTrial 82 = .ok (.iconst 4, 1) := by decide +kernel
theorem dX2_comesToTrial_83 : decode cX2_comesToTrial 83 = .ok (.iadd, 1) := by decide +kernel
theorem dX2_comesToTrial_84 : decode cX2_comesToTrial 84 = .ok (.invokevirtual 185, 3) := by decide +kernel
theorem dX2_comesToTrial_87 : decode cX2_comesToTrial 87 = .ok (.invokevirtual 188, 3) := by decide +kernel
theorem dX2_comesToTrial_90 : decode cX2_comesToTrial 90 = .ok (.ireturn, 1) := by decide +kernel
theorem dX2_comesToTrial_91 : decode cX2_comesToTrial 91 = .ok (.aload_n 0, 1) := by decide +kernel
theorem dX2_comesToTrial_92 : decode cX2_comesToTrial 92 = .ok (.getfield 19, 3) := by decide +kernel
theorem dX2_comesToTrial_95 : decode cX2_comesToTrial 95 = .ok (.aload_n 0, 1) := by decide +kernel
theorem dX2_comesToTrial_96 : decode cX2_comesToTrial 96 = .ok (.getfield 28, 3) := by decide +kernel
theorem dX2_comesToTrial_99 : decode cX2_comesToTrial 99 = .ok (.iload_n 1, 1) := by decide +kernel
theorem dX2_comesToTrial_100 : decode cX2_comesToTrial 100 = .ok (.iconst 1, 1) := by decide +kernel
theorem dX2_comesToTrial_101 : decode cX2_comesToTrial 101 = .ok (.iadd, 1) := by decide +kernel
theorem dX2_comesToTrial_102 : decode cX2_comesToTrial 102 = .ok (.invokevirtual 185, 3) := by decide +kernel
theorem dX2_comesToTrial_105 : decode cX2_comesToTrial 105 = .ok (.aload_n 0, 1) := by decide +kernel
theorem dX2_comesToTrial_106 : decode cX2_comesToTrial 106 = .ok (.getfield 28, 3) := by decide +kernel
theorem dX2_comesToTrial_109 : decode cX2_comesToTrial 109 = .ok (.iload_n 1, 1) := by decide +kernel
theorem dX2_comesToTrial_110 : decode cX2_comesToTrial 110 = .ok (.iconst 2, 1) := by decide +kernel
theorem dX2_comesToTrial_111 : decode cX2_comesToTrial 111 = .ok (.iadd, 1) := by decide +kernel
theorem dX2_comesToTrial_112 : decode cX2_comesToTrial 112 = .ok (.invokevirtual 185, 3) := by decide +kernel
theorem dX2_comesToTrial_115 : decode cX2_comesToTrial 115 = .ok (.invokevirtual 192, 3) := by decide +kernel
theorem dX2_comesToTrial_118 : decode cX2_comesToTrial 118 = .ok (.ireturn, 1) := by decide +kernel
theorem dX2_comesToTrial_119 : decode cX2_comesToTrial 119 = .ok (.aload_n 0, 1) := by decide +kernel
theorem dX2_comesToTrial_120 : decode cX2_comesToTrial 120 = .ok (.getfield 19, 3) := by decide +kernel
theorem dX2_comesToTrial_123 : decode cX2_comesToTrial 123 = .ok (.aload_n 0, 1) := by decide +kernel
theorem dX2_comesToTrial_124 : decode cX2_comesToTrial 124 = .ok (.getfield 28, 3) := by decide +kernel
theorem dX2_comesToTrial_127 : decode cX2_comesToTrial 127 = .ok (.iload_n 1, 1) := by decide +kernel
theorem dX2_comesToTrial_128 : decode cX2_comesToTrial 128 = .ok (.iconst 1, 1) := by decide +kernel
theorem dX2_comesToTrial_129 : decode cX2_comesToTrial 129 = .ok (.iadd, 1) := by decide +kernel
theorem dX2_comesToTrial_130 : decode cX2_comesToTrial 130 = .ok (.invokevirtual 185, 3) := by decide +kernel
theorem dX2_comesToTrial_133 : decode cX2_comesToTrial 133 = .ok (.aload_n 0, 1) := by decide +kernel
theorem dX2_comesToTrial_134 : decode cX2_comesToTrial 134 = .ok (.getfield 28, 3) := by decide +kernel
theorem dX2_comesToTrial_137 : decode cX2_comesToTrial 137 = .ok (.iload_n 1, 1) := by decide +kernel
theorem dX2_comesToTrial_138 : decode cX2_comesToTrial 138 = .ok (.iconst 3, 1) := by decide +kernel
theorem dX2_comesToTrial_139 : decode cX2_comesToTrial 139 = .ok (.iadd, 1) := by decide +kernel
theorem dX2_comesToTrial_140 : decode cX2_comesToTrial 140 = .ok (.invokevirtual 196, 3) := by decide +kernel
theorem dX2_comesToTrial_143 : decode cX2_comesToTrial 143 = .ok (.invokevirtual 199, 3) := by decide +kernel
theorem dX2_comesToTrial_146 : decode cX2_comesToTrial 146 = .ok (.ireturn, 1) := by decide +kernel
theorem dX2_firstNotAsTold_0 : decode cX2_firstNotAsTold 0 = .ok (.aload_n 0, 1) := by decide +kernel
theorem dX2_firstNotAsTold_1 : decode cX2_firstNotAsTold 1 = .ok (.getfield 151, 3) := by decide +kernel
theorem dX2_firstNotAsTold_4 : decode cX2_firstNotAsTold 4 = .ok (.aload_n 1, 1) := by decide +kernel
theorem dX2_firstNotAsTold_5 : decode cX2_firstNotAsTold 5 = .ok (.getfield 120, 3) := by decide +kernel
theorem dX2_firstNotAsTold_8 : decode cX2_firstNotAsTold 8 = .ok (.invokestatic 202, 3) := by decide +kernel
theorem dX2_firstNotAsTold_11 : decode cX2_firstNotAsTold 11 = .ok (.istore_n 2, 1) := by decide +kernel
theorem dX2_firstNotAsTold_12 : decode cX2_firstNotAsTold 12 = .ok (.iconst 0, 1) := by decide +kernel
theorem dX2_firstNotAsTold_13 : decode cX2_firstNotAsTold 13 = .ok (.istore_n 3, 1) := by decide +kernel
theorem dX2_firstNotAsTold_14 : decode cX2_firstNotAsTold 14 = .ok (.iload_n 3, 1) := by decide +kernel
theorem dX2_firstNotAsTold_15 : decode cX2_firstNotAsTold 15 = .ok (.iload_n 2, 1) := by decide +kernel
theorem dX2_firstNotAsTold_16 : decode cX2_firstNotAsTold 16 = .ok (.if_icmp .ge 26, 3) := by decide +kernel
theorem dX2_firstNotAsTold_19 : decode cX2_firstNotAsTold 19 = .ok (.aload_n 0, 1) := by decide +kernel
theorem dX2_firstNotAsTold_20 : decode cX2_firstNotAsTold 20 = .ok (.getfield 39, 3) := by decide +kernel
theorem dX2_firstNotAsTold_23 : decode cX2_firstNotAsTold 23 = .ok (.iload_n 3, 1) := by decide +kernel
theorem dX2_firstNotAsTold_24 : decode cX2_firstNotAsTold 24 = .ok (.iaload, 1) := by decide +kernel
theorem dX2_firstNotAsTold_25 : decode cX2_firstNotAsTold 25 = .ok (.aload_n 1, 1) := by decide +kernel
theorem dX2_firstNotAsTold_26 : decode cX2_firstNotAsTold 26 = .ok (.getfield 76, 3) := by decide +kernel
theorem dX2_firstNotAsTold_29 : decode cX2_firstNotAsTold 29 = .ok (.iload_n 3, 1) := by decide +kernel
theorem dX2_firstNotAsTold_30 : decode cX2_firstNotAsTold 30 = .ok (.iaload, 1) := by decide +kernel
theorem dX2_firstNotAsTold_31 : decode cX2_firstNotAsTold 31 = .ok (.if_icmp .eq 5, 3) := by decide +kernel
theorem dX2_firstNotAsTold_34 : decode cX2_firstNotAsTold 34 = .ok (.iload_n 3, 1) := by decide +kernel
theorem dX2_firstNotAsTold_35 : decode cX2_firstNotAsTold 35 = .ok (.ireturn, 1) := by decide +kernel
theorem dX2_firstNotAsTold_36 : decode cX2_firstNotAsTold 36 = .ok (.iinc 3 1, 3) := by decide +kernel
theorem dX2_firstNotAsTold_39 : decode cX2_firstNotAsTold 39 = .ok (.goto (-25), 3) := by decide +kernel
theorem dX2_firstNotAsTold_42 : decode cX2_firstNotAsTold 42 = .ok (.aload_n 0, 1) := by decide +kernel
theorem dX2_firstNotAsTold_43 : decode cX2_firstNotAsTold 43 = .ok (.getfield 151, 3) := by decide +kernel
theorem dX2_firstNotAsTold_46 : decode cX2_firstNotAsTold 46 = .ok (.aload_n 1, 1) := by decide +kernel
theorem dX2_firstNotAsTold_47 : decode cX2_firstNotAsTold 47 = .ok (.getfield 120, 3) := by decide +kernel
theorem dX2_firstNotAsTold_50 : decode cX2_firstNotAsTold 50 = .ok (.if_icmp .ne 8, 3) := by decide +kernel
theorem dX2_firstNotAsTold_53 : decode cX2_firstNotAsTold 53 = .ok (.bipush (-9), 2) := by decide +kernel
theorem dX2_firstNotAsTold_55 : decode cX2_firstNotAsTold 55 = .ok (.goto 4, 3) := by decide +kernel
theorem dX2_firstNotAsTold_58 : decode cX2_firstNotAsTold 58 = .ok (.iload_n 2, 1) := by decide +kernel
theorem dX2_firstNotAsTold_59 : decode cX2_firstNotAsTold 59 = .ok (.ireturn, 1) := by decide +kernel
theorem dX2_findBestMap_0 : decode cX2_findBestMap 0 = .ok (.iconst 0, 1) := by decide +kernel
theorem dX2_findBestMap_1 : decode cX2_findBestMap 1 = .ok (.istore_n 2, 1) := by decide +kernel
theorem dX2_findBestMap_2 : decode cX2_findBestMap 2 = .ok (.iload_n 2, 1) := by decide +kernel
theorem dX2_findBestMap_3 : decode cX2_findBestMap 3 = .ok (.aload_n 0, 1) := by decide +kernel
theorem dX2_findBestMap_4 : decode cX2_findBestMap 4 = .ok (.getfield 12, 3) := by decide +kernel
theorem dX2_findBestMap_7 : decode cX2_findBestMap 7 = .ok (.getfield 120, 3) := by decide +kernel
theorem dX2_findBestMap_10 : decode cX2_findBestMap 10 = .ok (.if_icmp .ge 16, 3) := by decide +kernel
theorem dX2_findBestMap_13 : decode cX2_findBestMap 13 = .ok (.aload_n 0, 1) := by decide +kernel
theorem dX2_findBestMap_14 : decode cX2_findBestMap 14 = .ok (.getfield 32, 3) := by decide +kernel
theorem dX2_findBestMap_17 : decode cX2_findBestMap 17 = .ok (.iload_n 2, 1) := by decide +kernel
theorem dX2_findBestMap_18 : decode cX2_findBestMap 18 = .ok (.iload_n 2, 1) := by decide +kernel
theorem dX2_findBestMap_19 : decode cX2_findBestMap 19 = .ok (.iastore, 1) := by decide +kernel
theorem dX2_findBestMap_20 : decode cX2_findBestMap 20 = .ok (.iinc 2 1, 3) := by decide +kernel
theorem dX2_findBestMap_23 : decode cX2_findBestMap 23 = .ok (.goto (-21), 3) := by decide +kernel
theorem dX2_findBestMap_26 : decode cX2_findBestMap 26 = .ok (.bipush 55, 2) := by decide +kernel
theorem dX2_findBestMap_28 : decode cX2_findBestMap 28 = .ok (.istore_n 2, 1) := by decide +kernel
theorem dX2_findBestMap_29 : decode cX2_findBestMap 29 = .ok (.iconst 1, 1) := by decide +kernel
theorem dX2_findBestMap_30 : decode cX2_findBestMap 30 = .ok (.istore_n 3, 1) := by decide +kernel
theorem dX2_findBestMap_31 : decode cX2_findBestMap 31 = .ok (.iconst 0, 1) := by decide +kernel
theorem dX2_findBestMap_32 : decode cX2_findBestMap 32 = .ok (.istore 4, 2) := by decide +kernel
theorem dX2_findBestMap_34 : decode cX2_findBestMap 34 = .ok (.iload 4, 2) := by decide +kernel
theorem dX2_findBestMap_36 : decode cX2_findBestMap 36 = .ok (.sipush 720, 3) := by decide +kernel
theorem dX2_findBestMap_39 : decode cX2_findBestMap 39 = .ok (.if_icmp .ge 88, 3) := by decide +kernel
theorem dX2_findBestMap_42 : decode cX2_findBestMap 42 = .ok (.iload_n 3, 1) := by decide +kernel
theorem dX2_findBestMap_43 : decode cX2_findBestMap 43 = .ok (.ifCond .eq 84, 3) := by decide +kernel
theorem dX2_findBestMap_46 : decode cX2_findBestMap 46 = .ok (.aload_n 0, 1) := by decide +kernel
theorem dX2_findBestMap_47 : decode cX2_findBestMap 47 = .ok (.getfield 19, 3) := by decide +kernel
theorem dX2_findBestMap_50 : decode cX2_findBestMap 50 = .ok (.aload_n 0, 1) := by decide +kernel
theorem dX2_findBestMap_51 : decode cX2_findBestMap 51 = .ok (.getfield 12, 3) := by decide +kernel
theorem dX2_findBestMap_54 : decode cX2_findBestMap 54 = .ok (.invokevirtual 106, 3) := by decide +kernel
theorem dX2_findBestMap_57 : decode cX2_findBestMap 57 = .ok (.aload_n 0, 1) := by decide +kernel
theorem dX2_findBestMap_58 : decode cX2_findBestMap 58 = .ok (.getfield 32, 3) := by decide +kernel
theorem dX2_findBestMap_61 : decode cX2_findBestMap 61 = .ok (.iconst 0, 1) := by decide +kernel
theorem dX2_findBestMap_62 : decode cX2_findBestMap 62 = .ok (.aload_n 0, 1) := by decide +kernel
theorem dX2_findBestMap_63 : decode cX2_findBestMap 63 = .ok (.getfield 19, 3) := by decide +kernel
theorem dX2_findBestMap_66 : decode cX2_findBestMap 66 = .ok (.getfield 88, 3) := by decide +kernel
theorem dX2_findBestMap_69 : decode cX2_findBestMap 69 = .ok (.iconst 0, 1) := by decide +kernel
theorem dX2_findBestMap_70 : decode cX2_findBestMap 70 = .ok (.bipush 6, 2) := by decide +kernel
theorem dX2_findBestMap_72 : decode cX2_findBestMap 72 = .ok (.invokestatic 208, 3) := by decide +kernel
theorem dX2_findBestMap_75 : decode cX2_findBestMap 75 = .ok (.aload_n 0, 1) := by decide +kernel
theorem dX2_findBestMap_76 : decode cX2_findBestMap 76 = .ok (.getfield 19, 3) := by decide +kernel
theorem dX2_findBestMap_79 : decode cX2_findBestMap 79 = .ok (.iload_n 1, 1) := by decide +kernel
theorem dX2_findBestMap_80 : decode cX2_findBestMap 80 = .ok (.invokevirtual 110, 3) := by decide +kernel
theorem dX2_findBestMap_83 : decode cX2_findBestMap 83 = .ok (.istore 5, 2) := by decide +kernel
theorem dX2_findBestMap_85 : decode cX2_findBestMap 85 = .ok (.iload 5, 2) := by decide +kernel
theorem dX2_findBestMap_87 : decode cX2_findBestMap 87 = .ok (.iload_n 2, 1) := by decide +kernel
theorem dX2_findBestMap_88 : decode cX2_findBestMap 88 = .ok (.if_icmp .ge 21, 3) := by decide +kernel
theorem dX2_findBestMap_91 : decode cX2_findBestMap 91 = .ok (.iload 5, 2) := by decide +kernel
theorem dX2_findBestMap_93 : decode cX2_findBestMap 93 = .ok (.istore_n 2, 1) := by decide +kernel
theorem dX2_findBestMap_94 : decode cX2_findBestMap 94 = .ok (.aload_n 0, 1) := by decide +kernel
theorem dX2_findBestMap_95 : decode cX2_findBestMap 95 = .ok (.getfield 32, 3) := by decide +kernel
theorem dX2_findBestMap_98 : decode cX2_findBestMap 98 = .ok (.iconst 0, 1) := by decide +kernel
theorem dX2_findBestMap_99 : decode cX2_findBestMap 99 = .ok (.aload_n 0, 1) := by decide +kernel
theorem dX2_findBestMap_100 : decode cX2_findBestMap 100 = .ok (.getfield 36, 3) := by decide +kernel
theorem dX2_findBestMap_103 : decode cX2_findBestMap 103 = .ok (.iconst 0, 1) := by decide +kernel
theorem dX2_findBestMap_104 : decode cX2_findBestMap 104 = .ok (.bipush 6, 2) := by decide +kernel
theorem dX2_findBestMap_106 : decode cX2_findBestMap 106 = .ok (.invokestatic 208, 3) := by decide +kernel
theorem dX2_findBestMap_109 : decode cX2_findBestMap 109 = .ok (.aload_n 0, 1) := by decide +kernel
theorem dX2_findBestMap_110 : decode cX2_findBestMap 110 = .ok (.aload_n 0, 1) := by decide +kernel
theorem dX2_findBestMap_111 : decode cX2_findBestMap 111 = .ok (.getfield 12, 3) := by decide +kernel
theorem dX2_findBestMap_114 : decode cX2_findBestMap 114 = .ok (.getfield 120, 3) := by decide +kernel
theorem dX2_findBestMap_117 : decode cX2_findBestMap 117 = .ok (.invokevirtual 214, 3) := by decide +kernel
theorem dX2_findBestMap_120 : decode cX2_findBestMap 120 = .ok (.istore_n 3, 1) := by decide +kernel
theorem dX2_findBestMap_121 : decode cX2_findBestMap 121 = .ok (.iinc 4 1, 3) := by decide +kernel
theorem dX2_findBestMap_124 : decode cX2_findBestMap 124 = .ok (.goto (-90), 3) := by decide +kernel
theorem dX2_findBestMap_127 : decode cX2_findBestMap 127 = .ok (.iload_n 2, 1) := by decide +kernel
theorem dX2_findBestMap_128 : decode cX2_findBestMap 128 = .ok (.ireturn, 1) := by decide +kernel
theorem dX2_goToNextMap_0 : decode cX2_goToNextMap 0 = .ok (.iload_n 1, 1) := by decide +kernel
theorem dX2_goToNextMap_1 : decode cX2_goToNextMap 1 = .ok (.iconst 2, 1) := by decide +kernel
theorem dX2_goToNextMap_2 : decode cX2_goToNextMap 2 = .ok (.isub, 1) := by decide +kernel
theorem dX2_goToNextMap_3 : decode cX2_goToNextMap 3 = .ok (.istore_n 2, 1) := by decide +kernel
theorem dX2_goToNextMap_4 : decode cX2_goToNextMap 4 = .ok (.iload_n 2, 1) := by decide +kernel
theorem dX2_goToNextMap_5 : decode cX2_goToNextMap 5 = .ok (.ifCond .lt 26, 3) := by decide +kernel
theorem dX2_goToNextMap_8 : decode cX2_goToNextMap 8 = .ok (.aload_n 0, 1) := by decide +kernel
theorem dX2_goToNextMap_9 : decode cX2_goToNextMap 9 = .ok (.getfield 32, 3) := by decide +kernel
theorem dX2_goToNextMap_12 : decode cX2_goToNextMap 12 = .ok (.iload_n 2, 1) := by decide +kernel
theorem dX2_goToNextMap_13 : decode cX2_goToNextMap 13 = .ok (.iaload, 1) := by decide +kernel
theorem dX2_goToNextMap_14 : decode cX2_goToNextMap 14 = .ok (.aload_n 0, 1) := by decide +kernel
theorem dX2_goToNextMap_15 : decode cX2_goToNextMap 15 = .ok (.getfield 32, 3) := by decide +kernel
theorem dX2_goToNextMap_18 : decode cX2_goToNextMap 18 = .ok (.iload_n 2, 1) := by decide +kernel
theorem dX2_goToNextMap_19 : decode cX2_goToNextMap 19 = .ok (.iconst 1, 1) := by decide +kernel
theorem dX2_goToNextMap_20 : decode cX2_goToNextMap 20 = .ok (.iadd, 1) := by decide +kernel
theorem dX2_goToNextMap_21 : decode cX2_goToNextMap 21 = .ok (.iaload, 1) := by decide +kernel
theorem dX2_goToNextMap_22 : decode cX2_goToNextMap 22 = .ok (.if_icmp .le 9, 3) := by decide +kernel
theorem dX2_goToNextMap_25 : decode cX2_goToNextMap 25 = .ok (.iinc 2 (-1), 3) := by decide +kernel
theorem dX2_goToNextMap_28 : decode cX2_goToNextMap 28 = .ok (.goto (-24), 3) := by decide +kernel
theorem dX2_goToNextMap_31 : decode cX2_goToNextMap 31 = .ok (.iload_n 2, 1) := by decide +kernel
theorem dX2_goToNextMap_32 : decode cX2_goToNextMap 32 = .ok (.ifCond .ge 5, 3) := by decide +kernel
theorem dX2_goToNextMap_35 : decode cX2_goToNextMap 35 = .ok (.iconst 0, 1) := by decide +kernel
theorem dX2_goToNextMap_36 : decode cX2_goToNextMap 36 = .ok (.ireturn, 1) := by decide +kernel
theorem dX2_goToNextMap_37 : decode cX2_goToNextMap 37 = .ok (.iload_n 1, 1) := by decide +kernel
theorem dX2_goToNextMap_38 : decode cX2_goToNextMap 38 = .ok (.iconst 1, 1) := by decide +kernel
theorem dX2_goToNextMap_39 : decode cX2_goToNextMap 39 = .ok (.isub, 1) := by decide +kernel
theorem dX2_goToNextMap_40 : decode cX2_goToNextMap 40 = .ok (.istore_n 3, 1) := by decide +kernel
theorem dX2_goToNextMap_41 : decode cX2_goToNextMap 41 = .ok (.iload_n 3, 1) := by decide +kernel
theorem dX2_goToNextMap_42 : decode cX2_goToNextMap 42 = .ok (.iload_n 2, 1) := by decide +kernel
theorem dX2_goToNextMap_43 : decode cX2_goToNextMap 43 = .ok (.if_icmp .le 24, 3) := by decide +kernel
theorem dX2_goToNextMap_46 : decode cX2_goToNextMap 46 = .ok (.aload_n 0, 1) := by decide +kernel
theorem dX2_goToNextMap_47 : decode cX2_goToNextMap 47 = .ok (.getfield 32, 3) := by decide +kernel
theorem dX2_goToNextMap_50 : decode cX2_goToNextMap 50 = .ok (.iload_n 3, 1) := by decide +kernel
theorem dX2_goToNextMap_51 : decode cX2_goToNextMap 51 = .ok (.iaload, 1) := by decide +kernel
theorem dX2_goToNextMap_52 : decode cX2_goToNextMap 52 = .ok (.aload_n 0, 1) := by decide +kernel
theorem dX2_goToNextMap_53 : decode cX2_goToNextMap 53 = .ok (.getfield 32, 3) := by decide +kernel
theorem dX2_goToNextMap_56 : decode cX2_goToNextMap 56 = .ok (.iload_n 2, 1) := by decide +kernel
theorem dX2_goToNextMap_57 : decode cX2_goToNextMap 57 = .ok (.iaload, 1) := by decide +kernel
theorem dX2_goToNextMap_58 : decode cX2_goToNextMap 58 = .ok (.if_icmp .ge 9, 3) := by decide +kernel
theorem dX2_goToNextMap_61 : decode cX2_goToNextMap 61 = .ok (.iinc 3 (-1), 3) := by decide +kernel
theorem dX2_goToNextMap_64 : decode cX2_goToNextMap 64 = .ok (.goto (-23), 3) := by decide +kernel
theorem dX2_goToNextMap_67 : decode cX2_goToNextMap 67 = .ok (.aload_n 0, 1) := by decide +kernel
theorem dX2_goToNextMap_68 : decode cX2_goToNextMap 68 = .ok (.iload_n 2, 1) := by decide +kernel
theorem dX2_goToNextMap_69 : decode cX2_goToNextMap 69 = .ok (.iload_n 3, 1) := by decide +kernel
theorem dX2_goToNextMap_70 : decode cX2_goToNextMap 70 = .ok (.invokevirtual 217, 3) := by decide +kernel
theorem dX2_goToNextMap_73 : decode cX2_goToNextMap 73 = .ok (.iload_n 2, 1) := by decide +kernel
theorem dX2_goToNextMap_74 : decode cX2_goToNextMap 74 = .ok (.iconst 1, 1) := by decide +kernel
theorem dX2_goToNextMap_75 : decode cX2_goToNextMap 75 = .ok (.iadd, 1) := by decide +kernel
theorem dX2_goToNextMap_76 : decode cX2_goToNextMap 76 = .ok (.istore 4, 2) := by decide +kernel
theorem dX2_goToNextMap_78 : decode cX2_goToNextMap 78 = .ok (.iload_n 1, 1) := by decide +kernel
theorem dX2_goToNextMap_79 : decode cX2_goToNextMap 79 = .ok (.iconst 1, 1) := by decide +kernel
theorem dX2_goToNextMap_80 : decode cX2_goToNextMap 80 = .ok (.isub, 1) := by decide +kernel
theorem dX2_goToNextMap_81 : decode cX2_goToNextMap 81 = .ok (.istore 5, 2) := by decide +kernel
theorem dX2_goToNextMap_83 : decode cX2_goToNextMap 83 = .ok (.iload 4, 2) := by decide +kernel
theorem dX2_goToNextMap_85 : decode cX2_goToNextMap 85 = .ok (.iload 5, 2) := by decide +kernel
theorem dX2_goToNextMap_87 : decode cX2_goToNextMap 87 = .ok (.if_icmp .ge 20, 3) := by decide +kernel
theorem dX2_goToNextMap_90 : decode cX2_goToNextMap 90 = .ok (.aload_n 0, 1) := by decide +kernel
theorem dX2_goToNextMap_91 : decode cX2_goToNextMap 91 = .ok (.iload 4, 2) := by decide +kernel
theorem dX2_goToNextMap_93 : decode cX2_goToNextMap 93 = .ok (.iload 5, 2) := by decide +kernel
theorem dX2_goToNextMap_95 : decode cX2_goToNextMap 95 = .ok (.invokevirtual 217, 3) := by decide +kernel
theorem dX2_goToNextMap_98 : decode cX2_goToNextMap 98 = .ok (.iinc 4 1, 3) := by decide +kernel
theorem dX2_goToNextMap_101 : decode cX2_goToNextMap 101 = .ok (.iinc 5 (-1), 3) := by decide +kernel
theorem dX2_goToNextMap_104 : decode cX2_goToNextMap 104 = .ok (.goto (-21), 3) := by decide +kernel
theorem dX2_goToNextMap_107 : decode cX2_goToNextMap 107 = .ok (.iconst 1, 1) := by decide +kernel
theorem dX2_goToNextMap_108 : decode cX2_goToNextMap 108 = .ok (.ireturn, 1) := by decide +kernel
theorem dX2_swapInMap_0 : decode cX2_swapInMap 0 = .ok (.aload_n 0, 1) := by decide +kernel
theorem dX2_swapInMap_1 : decode cX2_swapInMap 1 = .ok (.getfield 32, 3) := by decide +kernel
theorem dX2_swapInMap_4 : decode cX2_swapInMap 4 = .ok (.iload_n 1, 1) := by decide +kernel
theorem dX2_swapInMap_5 : decode cX2_swapInMap 5 = .ok (.iaload, 1) := by decide +kernel
theorem dX2_swapInMap_6 : decode cX2_swapInMap 6 = .ok (.istore_n 3, 1) := by decide +kernel
theorem dX2_swapInMap_7 : decode cX2_swapInMap 7 = .ok (.aload_n 0, 1) := by decide +kernel
theorem dX2_swapInMap_8 : decode cX2_swapInMap 8 = .ok (.getfield 32, 3) := by decide +kernel
theorem dX2_swapInMap_11 : decode cX2_swapInMap 11 = .ok (.iload_n 1, 1) := by decide +kernel
theorem dX2_swapInMap_12 : decode cX2_swapInMap 12 = .ok (.aload_n 0, 1) := by decide +kernel
theorem dX2_swapInMap_13 : decode cX2_swapInMap 13 = .ok (.getfield 32, 3) := by decide +kernel
theorem dX2_swapInMap_16 : decode cX2_swapInMap 16 = .ok (.iload_n 2, 1) := by decide +kernel
theorem dX2_swapInMap_17 : decode cX2_swapInMap 17 = .ok (.iaload, 1) := by decide +kernel
theorem dX2_swapInMap_18 : decode cX2_swapInMap 18 = .ok (.iastore, 1) := by decide +kernel
theorem dX2_swapInMap_19 : decode cX2_swapInMap 19 = .ok (.aload_n 0, 1) := by decide +kernel
theorem dX2_swapInMap_20 : decode cX2_swapInMap 20 = .ok (.getfield 32, 3) := by decide +kernel
theorem dX2_swapInMap_23 : decode cX2_swapInMap 23 = .ok (.iload_n 2, 1) := by decide +kernel
theorem dX2_swapInMap_24 : decode cX2_swapInMap 24 = .ok (.iload_n 3, 1) := by decide +kernel
theorem dX2_swapInMap_25 : decode cX2_swapInMap 25 = .ok (.iastore, 1) := by decide +kernel
theorem dX2_swapInMap_26 : decode cX2_swapInMap 26 = .ok (.return_, 1) := by decide +kernel
