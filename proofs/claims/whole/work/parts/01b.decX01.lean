theorem dX0_init_0 : decode cX0_init 0 = .ok (.aload_n 0, 1) := by decide +kernel
theorem dX0_init_1 : decode cX0_init 1 = .ok (.invokespecial 3, 3) := by decide +kernel
theorem dX0_init_4 : decode cX0_init 4 = .ok (.aload_n 0, 1) := by decide +kernel
theorem dX0_init_5 : decode cX0_init 5 = .ok (.bipush 64, 2) := by decide +kernel
theorem dX0_init_7 : decode cX0_init 7 = .ok (.newarray .char, 2) := by decide +kernel
theorem dX0_init_9 : decode cX0_init 9 = .ok (.putfield 9, 3) := by decide +kernel
theorem dX0_init_12 : decode cX0_init 12 = .ok (.return_, 1) := by decide +kernel
theorem dX0_isFull_0 : decode cX0_isFull 0 = .ok (.aload_n 0, 1) := by decide +kernel
theorem dX0_isFull_1 : decode cX0_isFull 1 = .ok (.getfield 15, 3) := by decide +kernel
theorem dX0_isFull_4 : decode cX0_isFull 4 = .ok (.aload_n 0, 1) := by decide +kernel
theorem dX0_isFull_5 : decode cX0_isFull 5 = .ok (.getfield 9, 3) := by decide +kernel
theorem dX0_isFull_8 : decode cX0_isFull 8 = .ok (.arraylength, 1) := by decide +kernel
theorem dX0_isFull_9 : decode cX0_isFull 9 = .ok (.if_icmp .lt 7, 3) := by decide +kernel
theorem dX0_isFull_12 : decode cX0_isFull 12 = .ok (.iconst 1, 1) := by decide +kernel
theorem dX0_isFull_13 : decode cX0_isFull 13 = .ok (.goto 4, 3) := by decide +kernel
theorem dX0_isFull_16 : decode cX0_isFull 16 = .ok (.iconst 0, 1) := by decide +kernel
theorem dX0_isFull_17 : decode cX0_isFull 17 = .ok (.ireturn, 1) := by decide +kernel
theorem dX0_append_0 : decode cX0_append 0 = .ok (.aload_n 0, 1) := by decide +kernel
theorem dX0_append_1 : decode cX0_append 1 = .ok (.invokevirtual 19, 3) := by decide +kernel
theorem dX0_append_4 : decode cX0_append 4 = .ok (.ifCond .ne 23, 3) := by decide +kernel
theorem dX0_append_7 : decode cX0_append 7 = .ok (.aload_n 0, 1) := by decide +kernel
theorem dX0_append_8 : decode cX0_append 8 = .ok (.getfield 9, 3) := by decide +kernel
theorem dX0_append_11 : decode cX0_append 11 = .ok (.aload_n 0, 1) := by decide +kernel
theorem dX0_append_12 : decode cX0_append 12 = .ok (.getfield 15, 3) := by decide +kernel
theorem dX0_append_15 : decode cX0_append 15 = .ok (.iload_n 1, 1) := by decide +kernel
theorem dX0_append_16 : decode cX0_append 16 = .ok (.castore, 1) := by decide +kernel
theorem dX0_append_17 : decode cX0_append 17 = .ok (.aload_n 0, 1) := by decide +kernel
theorem dX0_append_18 : decode cX0_append 18 = .ok (.dup, 1) := by decide +kernel
theorem dX0_append_19 : decode cX0_append 19 = .ok (.getfield 15, 3) := by decide +kernel
theorem dX0_append_22 : decode cX0_append 22 = .ok (.iconst 1, 1) := by decide +kernel
theorem dX0_append_23 : decode cX0_append 23 = .ok (.iadd, 1) := by decide +kernel
theorem dX0_append_24 : decode cX0_append 24 = .ok (.putfield 15, 3) := by decide +kernel
theorem dX0_append_27 : decode cX0_append 27 = .ok (.return_, 1) := by decide +kernel
theorem dX0_at_0 : decode cX0_at 0 = .ok (.iload_n 1, 1) := by decide +kernel
theorem dX0_at_1 : decode cX0_at 1 = .ok (.ifCond .lt 29, 3) := by decide +kernel
theorem dX0_at_4 : decode cX0_at 4 = .ok (.iload_n 1, 1) := by decide +kernel
theorem dX0_at_5 : decode cX0_at 5 = .ok (.aload_n 0, 1) := by decide +kernel
theorem dX0_at_6 : decode cX0_at 6 = .ok (.getfield 15, 3) := by decide +kernel
theorem dX0_at_9 : decode cX0_at 9 = .ok (.if_icmp .ge 21, 3) := by decide +kernel
theorem dX0_at_12 : decode cX0_at 12 = .ok (.iload_n 1, 1) := by decide +kernel
theorem dX0_at_13 : decode cX0_at 13 = .ok (.aload_n 0, 1) := by decide +kernel
theorem dX0_at_14 : decode cX0_at 14 = .ok (.getfield 9, 3) := by decide +kernel
theorem dX0_at_17 : decode cX0_at 17 = .ok (.arraylength, 1) := by decide +kernel
theorem dX0_at_18 : decode cX0_at 18 = .ok (.if_icmp .ge 12, 3) := by decide +kernel
theorem dX0_at_21 : decode cX0_at 21 = .ok (.aload_n 0, 1) := by decide +kernel
theorem dX0_at_22 : decode cX0_at 22 = .ok (.getfield 9, 3) := by decide +kernel
theorem dX0_at_25 : decode cX0_at 25 = .ok (.iload_n 1, 1) := by decide +kernel
theorem dX0_at_26 : decode cX0_at 26 = .ok (.caload, 1) := by decide +kernel
theorem dX0_at_27 : decode cX0_at 27 = .ok (.goto 4, 3) := by decide +kernel
theorem dX0_at_30 : decode cX0_at 30 = .ok (.iconst 0, 1) := by decide +kernel
theorem dX0_at_31 : decode cX0_at 31 = .ok (.ireturn, 1) := by decide +kernel
theorem dX0_digit_0 : decode cX0_digit 0 = .ok (.aload_n 0, 1) := by decide +kernel
theorem dX0_digit_1 : decode cX0_digit 1 = .ok (.iload_n 1, 1) := by decide +kernel
theorem dX0_digit_2 : decode cX0_digit 2 = .ok (.invokevirtual 23, 3) := by decide +kernel
theorem dX0_digit_5 : decode cX0_digit 5 = .ok (.invokestatic 27, 3) := by decide +kernel
theorem dX0_digit_8 : decode cX0_digit 8 = .ok (.ifCond .eq 14, 3) := by decide +kernel
theorem dX0_digit_11 : decode cX0_digit 11 = .ok (.aload_n 0, 1) := by decide +kernel
theorem dX0_digit_12 : decode cX0_digit 12 = .ok (.iload_n 1, 1) := by decide +kernel
theorem dX0_digit_13 : decode cX0_digit 13 = .ok (.invokevirtual 23, 3) := by decide +kernel
theorem dX0_digit_16 : decode cX0_digit 16 = .ok (.bipush 48, 2) := by decide +kernel
theorem dX0_digit_18 : decode cX0_digit 18 = .ok (.isub, 1) := by decide +kernel
theorem dX0_digit_19 : decode cX0_digit 19 = .ok (.goto 4, 3) := by decide +kernel
theorem dX0_digit_22 : decode cX0_digit 22 = .ok (.iconst 0, 1) := by decide +kernel
theorem dX0_digit_23 : decode cX0_digit 23 = .ok (.ireturn, 1) := by decide +kernel
theorem dX0_oneOrTwoDigits_0 : decode cX0_oneOrTwoDigits 0 = .ok (.aload_n 0, 1) := by decide +kernel
theorem dX0_oneOrTwoDigits_1 : decode cX0_oneOrTwoDigits 1 = .ok (.iload_n 1, 1) := by decide +kernel
theorem dX0_oneOrTwoDigits_2 : decode cX0_oneOrTwoDigits 2 = .ok (.invokevirtual 31, 3) := by decide +kernel
theorem dX0_oneOrTwoDigits_5 : decode cX0_oneOrTwoDigits 5 = .ok (.istore_n 2, 1) := by decide +kernel
theorem dX0_oneOrTwoDigits_6 : decode cX0_oneOrTwoDigits 6 = .ok (.aload_n 0, 1) := by decide +kernel
theorem dX0_oneOrTwoDigits_7 : decode cX0_oneOrTwoDigits 7 = .ok (.iload_n 1, 1) := by decide +kernel
theorem dX0_oneOrTwoDigits_8 : decode cX0_oneOrTwoDigits 8 = .ok (.iconst 1, 1) := by decide +kernel
theorem dX0_oneOrTwoDigits_9 : decode cX0_oneOrTwoDigits 9 = .ok (.iadd, 1) := by decide +kernel
theorem dX0_oneOrTwoDigits_10 : decode cX0_oneOrTwoDigits 10 = .ok (.invokevirtual 23, 3) := by decide +kernel
theorem dX0_oneOrTwoDigits_13 : decode cX0_oneOrTwoDigits 13 = .ok (.invokestatic 27, 3) := by decide +kernel
theorem dX0_oneOrTwoDigits_16 : decode cX0_oneOrTwoDigits 16 = .ok (.ifCond .eq 18, 3) := by decide +kernel
theorem dX0_oneOrTwoDigits_19 : decode cX0_oneOrTwoDigits 19 = .ok (.bipush 10, 2) := by decide +kernel
theorem dX0_oneOrTwoDigits_21 : decode cX0_oneOrTwoDigits 21 = .ok (.iload_n 2, 1) := by decide +kernel
theorem dX0_oneOrTwoDigits_22 : decode cX0_oneOrTwoDigits 22 = .ok (.imul, 1) := by decide +kernel
theorem dX0_oneOrTwoDigits_23 : decode cX0_oneOrTwoDigits 23 = .ok (.aload_n 0, 1) := by decide +kernel
theorem dX0_oneOrTwoDigits_24 : decode cX0_oneOrTwoDigits 24 = .ok (.iload_n 1, 1) := by decide +kernel
theorem dX0_oneOrTwoDigits_25 : decode cX0_oneOrTwoDigits 25 = .ok (.iconst 1, 1) := by decide +kernel
theorem dX0_oneOrTwoDigits_26 : decode cX0_oneOrTwoDigits 26 = .ok (.iadd, 1) := by decide +kernel
theorem dX0_oneOrTwoDigits_27 : decode cX0_oneOrTwoDigits 27 = .ok (.invokevirtual 31, 3) := by decide +kernel
theorem dX0_oneOrTwoDigits_30 : decode cX0_oneOrTwoDigits 30 = .ok (.iadd, 1) := by decide +kernel
theorem dX0_oneOrTwoDigits_31 : decode cX0_oneOrTwoDigits 31 = .ok (.goto 4, 3) := by decide +kernel
theorem dX0_oneOrTwoDigits_34 : decode cX0_oneOrTwoDigits 34 = .ok (.iload_n 2, 1) := by decide +kernel
theorem dX0_oneOrTwoDigits_35 : decode cX0_oneOrTwoDigits 35 = .ok (.ireturn, 1) := by decide +kernel
theorem dX0_formFault_0 : decode cX0_formFault 0 = .ok (.iconst 0, 1) := by decide +kernel
theorem dX0_formFault_1 : decode cX0_formFault 1 = .ok (.istore_n 1, 1) := by decide +kernel
theorem dX0_formFault_2 : decode cX0_formFault 2 = .ok (.iconst 0, 1) := by decide +kernel
theorem dX0_formFault_3 : decode cX0_formFault 3 = .ok (.istore_n 2, 1) := by decide +kernel
theorem dX0_formFault_4 : decode cX0_formFault 4 = .ok (.iload_n 2, 1) := by decide +kernel
theorem dX0_formFault_5 : decode cX0_formFault 5 = .ok (.aload_n 0, 1) := by decide +kernel
theorem dX0_formFault_6 : decode cX0_formFault 6 = .ok (.getfield 15, 3) := by decide +kernel
theorem dX0_formFault_9 : decode cX0_formFault 9 = .ok (.if_icmp .ge 26, 3) := by decide +kernel
theorem dX0_formFault_12 : decode cX0_formFault 12 = .ok (.iload_n 1, 1) := by decide +kernel
theorem dX0_formFault_13 : decode cX0_formFault 13 = .ok (.aload_n 0, 1) := by decide +kernel
theorem dX0_formFault_14 : decode cX0_formFault 14 = .ok (.iload_n 2, 1) := by decide +kernel
theorem dX0_formFault_15 : decode cX0_formFault 15 = .ok (.invokevirtual 23, 3) := by decide +kernel
theorem dX0_formFault_18 : decode cX0_formFault 18 = .ok (.invokestatic 35, 3) := by decide +kernel
theorem dX0_formFault_21 : decode cX0_formFault 21 = .ok (.istore_n 1, 1) := by decide +kernel
theorem dX0_formFault_22 : decode cX0_formFault 22 = .ok (.iload_n 1, 1) := by decide +kernel
theorem dX0_formFault_23 : decode cX0_formFault 23 = .ok (.iconst (-1), 1) := by decide +kernel
theorem dX0_formFault_24 : decode cX0_formFault 24 = .ok (.if_icmp .ne 5, 3) := by decide +kernel
theorem dX0_formFault_27 : decode cX0_formFault 27 = .ok (.iload_n 2, 1) := by decide +kernel
theorem dX0_formFault_28 : decode cX0_formFault 28 = .ok (.ireturn, 1) := by decide +kernel
theorem dX0_formFault_29 : decode cX0_formFault 29 = .ok (.iinc 2 1, 3) := by decide +kernel
theorem dX0_formFault_32 : decode cX0_formFault 32 = .ok (.goto (-28), 3) := by decide +kernel
theorem dX0_formFault_35 : decode cX0_formFault 35 = .ok (.iload_n 1, 1) := by decide +kernel
theorem dX0_formFault_36 : decode cX0_formFault 36 = .ok (.ifCond .ne 14, 3) := by decide +kernel
theorem dX0_formFault_39 : decode cX0_formFault 39 = .ok (.aload_n 0, 1) := by decide +kernel
theorem dX0_formFault_40 : decode cX0_formFault 40 = .ok (.getfield 15, 3) := by decide +kernel
theorem dX0_formFault_43 : decode cX0_formFault 43 = .ok (.ifCond .le 7, 3) := by decide +kernel
theorem dX0_formFault_46 : decode cX0_formFault 46 = .ok (.iconst (-1), 1) := by decide +kernel
theorem dX0_formFault_47 : decode cX0_formFault 47 = .ok (.goto 7, 3) := by decide +kernel
theorem dX0_formFault_50 : decode cX0_formFault 50 = .ok (.aload_n 0, 1) := by decide +kernel
theorem dX0_formFault_51 : decode cX0_formFault 51 = .ok (.getfield 15, 3) := by decide +kernel
theorem dX0_formFault_54 : decode cX0_formFault 54 = .ok (.ireturn, 1) := by decide +kernel
theorem dX0_dueBehind_0 : decode cX0_dueBehind 0 = .ok (.iload_n 0, 1) := by decide +kernel
theorem dX0_dueBehind_1 : decode cX0_dueBehind 1 = .ok (.tableswitch 171 0 9 #[55, 60, 75, 88, 101, 171, 114, 128, 141, 155], 55) := by decide +kernel
theorem dX0_dueBehind_56 : decode cX0_dueBehind 56 = .ok (.iload_n 1, 1) := by decide +kernel
theorem dX0_dueBehind_57 : decode cX0_dueBehind 57 = .ok (.invokestatic 39, 3) := by decide +kernel
theorem dX0_dueBehind_60 : decode cX0_dueBehind 60 = .ok (.ireturn, 1) := by decide +kernel
theorem dX0_dueBehind_61 : decode cX0_dueBehind 61 = .ok (.ldc 43, 2) := by decide +kernel
theorem dX0_dueBehind_63 : decode cX0_dueBehind 63 = .ok (.iload_n 1, 1) := by decide +kernel
theorem dX0_dueBehind_64 : decode cX0_dueBehind 64 = .ok (.invokevirtual 45, 3) := by decide +kernel
theorem dX0_dueBehind_67 : decode cX0_dueBehind 67 = .ok (.ifCond .lt 7, 3) := by decide +kernel
theorem dX0_dueBehind_70 : decode cX0_dueBehind 70 = .ok (.iconst 2, 1) := by decide +kernel
theorem dX0_dueBehind_71 : decode cX0_dueBehind 71 = .ok (.goto 4, 3) := by decide +kernel
theorem dX0_dueBehind_74 : decode cX0_dueBehind 74 = .ok (.iconst (-1), 1) := by decide +kernel
theorem dX0_dueBehind_75 : decode cX0_dueBehind 75 = .ok (.ireturn, 1) := by decide +kernel
theorem dX0_dueBehind_76 : decode cX0_dueBehind 76 = .ok (.iload_n 1, 1) := by decide +kernel
theorem dX0_dueBehind_77 : decode cX0_dueBehind 77 = .ok (.invokestatic 27, 3) := by decide +kernel
theorem dX0_dueBehind_80 : decode cX0_dueBehind 80 = .ok (.ifCond .eq 7, 3) := by decide +kernel
theorem dX0_dueBehind_83 : decode cX0_dueBehind 83 = .ok (.iconst 3, 1) := by decide +kernel
theorem dX0_dueBehind_84 : decode cX0_dueBehind 84 = .ok (.goto 4, 3) := by decide +kernel
theorem dX0_dueBehind_87 : decode cX0_dueBehind 87 = .ok (.iconst (-1), 1) := by decide +kernel
theorem dX0_dueBehind_88 : decode cX0_dueBehind 88 = .ok (.ireturn, 1) := by decide +kernel
theorem dX0_dueBehind_89 : decode cX0_dueBehind 89 = .ok (.iload_n 1, 1) := by decide +kernel
theorem dX0_dueBehind_90 : decode cX0_dueBehind 90 = .ok (.invokestatic 27, 3) := by decide +kernel
theorem dX0_dueBehind_93 : decode cX0_dueBehind 93 = .ok (.ifCond .eq 7, 3) := by decide +kernel
theorem dX0_dueBehind_96 : decode cX0_dueBehind 96 = .ok (.iconst 4, 1) := by decide +kernel
theorem dX0_dueBehind_97 : decode cX0_dueBehind 97 = .ok (.goto 4, 3) := by decide +kernel
theorem dX0_dueBehind_100 : decode cX0_dueBehind 100 = .ok (.iconst (-1), 1) := by decide +kernel
theorem dX0_dueBehind_101 : decode cX0_dueBehind 101 = .ok (.ireturn, 1) := by decide +kernel
theorem dX0_dueBehind_102 : decode cX0_dueBehind 102 = .ok (.iload_n 1, 1) := by decide +kernel
theorem dX0_dueBehind_103 : decode cX0_dueBehind 103 = .ok (.invokestatic 27, 3) := by decide +kernel
theorem dX0_dueBehind_106 : decode cX0_dueBehind 106 = .ok (.ifCond .eq 7, 3) := by decide +kernel
theorem dX0_dueBehind_109 : decode cX0_dueBehind 109 = .ok (.iconst 5, 1) := by decide +kernel
theorem dX0_dueBehind_110 : decode cX0_dueBehind 110 = .ok (.goto 4, 3) := by decide +kernel
theorem dX0_dueBehind_113 : decode cX0_dueBehind 113 = .ok (.iconst (-1), 1) := by decide +kernel
theorem dX0_dueBehind_114 : decode cX0_dueBehind 114 = .ok (.ireturn, 1) := by decide +kernel
theorem dX0_dueBehind_115 : decode cX0_dueBehind 115 = .ok (.iload_n 1, 1) := by decide +kernel
theorem dX0_dueBehind_116 : decode cX0_dueBehind 116 = .ok (.invokestatic 27, 3) := by decide +kernel
theorem dX0_dueBehind_119 : decode cX0_dueBehind 119 = .ok (.ifCond .eq 8, 3) := by decide +kernel
theorem dX0_dueBehind_122 : decode cX0_dueBehind 122 = .ok (.bipush 7, 2) := by decide +kernel
theorem dX0_dueBehind_124 : decode cX0_dueBehind 124 = .ok (.goto 4, 3) := by decide +kernel
theorem dX0_dueBehind_127 : decode cX0_dueBehind 127 = .ok (.iconst (-1), 1) := by decide +kernel
theorem dX0_dueBehind_128 : decode cX0_dueBehind 128 = .ok (.ireturn, 1) := by decide +kernel
theorem dX0_dueBehind_129 : decode cX0_dueBehind 129 = .ok (.iload_n 1, 1) := by decide +kernel
theorem dX0_dueBehind_130 : decode cX0_dueBehind 130 = .ok (.bipush 44, 2) := by decide +kernel
theorem dX0_dueBehind_132 : decode cX0_dueBehind 132 = .ok (.if_icmp .ne 8, 3) := by decide +kernel
theorem dX0_dueBehind_135 : decode cX0_dueBehind 135 = .ok (.bipush 8, 2) := by decide +kernel
theorem dX0_dueBehind_137 : decode cX0_dueBehind 137 = .ok (.goto 4, 3) := by decide +kernel
theorem dX0_dueBehind_140 : decode cX0_dueBehind 140 = .ok (.iconst (-1), 1) := by decide +kernel
theorem dX0_dueBehind_141 : decode cX0_dueBehind 141 = .ok (.ireturn, 1) := by decide +kernel
theorem dX0_dueBehind_142 : decode cX0_dueBehind 142 = .ok (.iload_n 1, 1) := by decide +kernel
theorem dX0_dueBehind_143 : decode cX0_dueBehind 143 = .ok (.invokestatic 27, 3) := by decide +kernel
theorem dX0_dueBehind_146 : decode cX0_dueBehind 146 = .ok (.ifCond .eq 8, 3) := by decide +kernel
theorem dX0_dueBehind_149 : decode cX0_dueBehind 149 = .ok (.bipush 9, 2) := by decide +kernel
theorem dX0_dueBehind_151 : decode cX0_dueBehind 151 = .ok (.goto 4, 3) := by decide +kernel
theorem dX0_dueBehind_154 : decode cX0_dueBehind 154 = .ok (.iconst (-1), 1) := by decide +kernel
theorem dX0_dueBehind_155 : decode cX0_dueBehind 155 = .ok (.ireturn, 1) := by decide +kernel
theorem dX0_dueBehind_156 : decode cX0_dueBehind 156 = .ok (.iload_n 1, 1) := by decide +kernel
theorem dX0_dueBehind_157 : decode cX0_dueBehind 157 = .ok (.invokestatic 27, 3) := by decide +kernel
theorem dX0_dueBehind_160 : decode cX0_dueBehind 160 = .ok (.ifCond .eq 7, 3) := by decide +kernel
theorem dX0_dueBehind_163 : decode cX0_dueBehind 163 = .ok (.iconst 5, 1) := by decide +kernel
theorem dX0_dueBehind_164 : decode cX0_dueBehind 164 = .ok (.goto 7, 3) := by decide +kernel
theorem dX0_dueBehind_167 : decode cX0_dueBehind 167 = .ok (.iload_n 1, 1) := by decide +kernel
theorem dX0_dueBehind_168 : decode cX0_dueBehind 168 = .ok (.invokestatic 50, 3) := by decide +kernel
theorem dX0_dueBehind_171 : decode cX0_dueBehind 171 = .ok (.ireturn, 1) := by decide +kernel
theorem dX0_dueBehind_172 : decode cX0_dueBehind 172 = .ok (.iload_n 1, 1) := by decide +kernel
theorem dX0_dueBehind_173 : decode cX0_dueBehind 173 = .ok (.invokestatic 50, 3) := by decide +kernel
theorem dX0_dueBehind_176 : decode cX0_dueBehind 176 = .ok (.ireturn, 1) := by decide +kernel
theorem dX0_dueAtEnd_0 : decode cX0_dueAtEnd 0 = .ok (.iload_n 0, 1) := by decide +kernel
theorem dX0_dueAtEnd_1 : decode cX0_dueAtEnd 1 = .ok (.bipush 59, 2) := by decide +kernel
theorem dX0_dueAtEnd_3 : decode cX0_dueAtEnd 3 = .ok (.if_icmp .ne 7, 3) := by decide +kernel
theorem dX0_dueAtEnd_6 : decode cX0_dueAtEnd 6 = .ok (.iconst 0, 1) := by decide +kernel
theorem dX0_dueAtEnd_7 : decode cX0_dueAtEnd 7 = .ok (.goto 4, 3) := by decide +kernel
theorem dX0_dueAtEnd_10 : decode cX0_dueAtEnd 10 = .ok (.iconst (-1), 1) := by decide +kernel
theorem dX0_dueAtEnd_11 : decode cX0_dueAtEnd 11 = .ok (.ireturn, 1) := by decide +kernel
theorem dX0_dueInStatement_0 : decode cX0_dueInStatement 0 = .ok (.iload_n 0, 1) := by decide +kernel
theorem dX0_dueInStatement_1 : decode cX0_dueInStatement 1 = .ok (.lookupswitch 42 #[(109, 37), (112, 39), (115, 35)], 35) := by decide +kernel
theorem dX0_dueInStatement_36 : decode cX0_dueInStatement 36 = .ok (.iconst 1, 1) := by decide +kernel
theorem dX0_dueInStatement_37 : decode cX0_dueInStatement 37 = .ok (.ireturn, 1) := by decide +kernel
theorem dX0_dueInStatement_38 : decode cX0_dueInStatement 38 = .ok (.iconst 3, 1) := by decide +kernel
theorem dX0_dueInStatement_39 : decode cX0_dueInStatement 39 = .ok (.ireturn, 1) := by decide +kernel
theorem dX0_dueInStatement_40 : decode cX0_dueInStatement 40 = .ok (.bipush 6, 2) := by decide +kernel
theorem dX0_dueInStatement_42 : decode cX0_dueInStatement 42 = .ok (.ireturn, 1) := by decide +kernel
theorem dX0_dueInStatement_43 : decode cX0_dueInStatement 43 = .ok (.iconst (-1), 1) := by decide +kernel
theorem dX0_dueInStatement_44 : decode cX0_dueInStatement 44 = .ok (.ireturn, 1) := by decide +kernel
theorem dX0_isDigit_0 : decode cX0_isDigit 0 = .ok (.iload_n 0, 1) := by decide +kernel
theorem dX0_isDigit_1 : decode cX0_isDigit 1 = .ok (.bipush 48, 2) := by decide +kernel
theorem dX0_isDigit_3 : decode cX0_isDigit 3 = .ok (.if_icmp .lt 13, 3) := by decide +kernel
theorem dX0_isDigit_6 : decode cX0_isDigit 6 = .ok (.iload_n 0, 1) := by decide +kernel
theorem dX0_isDigit_7 : decode cX0_isDigit 7 = .ok (.bipush 57, 2) := by decide +kernel
theorem dX0_isDigit_9 : decode cX0_isDigit 9 = .ok (.if_icmp .gt 7, 3) := by decide +kernel
theorem dX0_isDigit_12 : decode cX0_isDigit 12 = .ok (.iconst 1, 1) := by decide +kernel
theorem dX0_isDigit_13 : decode cX0_isDigit 13 = .ok (.goto 4, 3) := by decide +kernel
theorem dX0_isDigit_16 : decode cX0_isDigit 16 = .ok (.iconst 0, 1) := by decide +kernel
theorem dX0_isDigit_17 : decode cX0_isDigit 17 = .ok (.ireturn, 1) := by decide +kernel
theorem dX1_init_0 : decode cX1_init 0 = .ok (.aload_n 0, 1) := by decide +kernel
theorem dX1_init_1 : decode cX1_init 1 = .ok (.invokespecial 3, 3) := by decide +kernel
theorem dX1_init_4 : decode cX1_init 4 = .ok (.aload_n 0, 1) := by decide +kernel
theorem dX1_init_5 : decode cX1_init 5 = .ok (.bipush 6, 2) := by decide +kernel
theorem dX1_init_7 : decode cX1_init 7 = .ok (.newarray .int, 2) := by decide +kernel
theorem dX1_init_9 : decode cX1_init 9 = .ok (.putfield 9, 3) := by decide +kernel
theorem dX1_init_12 : decode cX1_init 12 = .ok (.aload_n 0, 1) := by decide +kernel
theorem dX1_init_13 : decode cX1_init 13 = .ok (.bipush 6, 2) := by decide +kernel
theorem dX1_init_15 : decode cX1_init 15 = .ok (.newarray .int, 2) := by decide +kernel
theorem dX1_init_17 : decode cX1_init 17 = .ok (.putfield 15, 3) := by decide +kernel
theorem dX1_init_20 : decode cX1_init 20 = .ok (.aload_n 0, 1) := by decide +kernel
theorem dX1_init_21 : decode cX1_init 21 = .ok (.bipush 6, 2) := by decide +kernel
theorem dX1_init_23 : decode cX1_init 23 = .ok (.newarray .int, 2) := by decide +kernel
theorem dX1_init_25 : decode cX1_init 25 = .ok (.putfield 18, 3) := by decide +kernel
theorem dX1_init_28 : decode cX1_init 28 = .ok (.aload_n 0, 1) := by decide +kernel
theorem dX1_init_29 : decode cX1_init 29 = .ok (.bipush 6, 2) := by decide +kernel
theorem dX1_init_31 : decode cX1_init 31 = .ok (.newarray .int, 2) := by decide +kernel
theorem dX1_init_33 : decode cX1_init 33 = .ok (.putfield 21, 3) := by decide +kernel
theorem dX1_init_36 : decode cX1_init 36 = .ok (.aload_n 0, 1) := by decide +kernel
theorem dX1_init_37 : decode cX1_init 37 = .ok (.bipush 6, 2) := by decide +kernel
theorem dX1_init_39 : decode cX1_init 39 = .ok (.newarray .int, 2) := by decide +kernel
theorem dX1_init_41 : decode cX1_init 41 = .ok (.putfield 24, 3) := by decide +kernel
theorem dX1_init_44 : decode cX1_init 44 = .ok (.aload_n 0, 1) := by decide +kernel
theorem dX1_init_45 : decode cX1_init 45 = .ok (.bipush 6, 2) := by decide +kernel
theorem dX1_init_47 : decode cX1_init 47 = .ok (.newarray .int, 2) := by decide +kernel
theorem dX1_init_49 : decode cX1_init 49 = .ok (.putfield 27, 3) := by decide +kernel
theorem dX1_init_52 : decode cX1_init 52 = .ok (.aload_n 0, 1) := by decide +kernel
theorem dX1_init_53 : decode cX1_init 53 = .ok (.bipush 6, 2) := by decide +kernel
theorem dX1_init_55 : decode cX1_init 55 = .ok (.newarray .int, 2) := by decide +kernel
theorem dX1_init_57 : decode cX1_init 57 = .ok (.putfield 30, 3) := by decide +kernel
theorem dX1_init_60 : decode cX1_init 60 = .ok (.aload_n 0, 1) := by decide +kernel
theorem dX1_init_61 : decode cX1_init 61 = .ok (.bipush 6, 2) := by decide +kernel
theorem dX1_init_63 : decode cX1_init 63 = .ok (.newarray .int, 2) := by decide +kernel
theorem dX1_init_65 : decode cX1_init 65 = .ok (.putfield 33, 3) := by decide +kernel
theorem dX1_init_68 : decode cX1_init 68 = .ok (.aload_n 0, 1) := by decide +kernel
theorem dX1_init_69 : decode cX1_init 69 = .ok (.iconst (-1), 1) := by decide +kernel
theorem dX1_init_70 : decode cX1_init 70 = .ok (.putfield 36, 3) := by decide +kernel
theorem dX1_init_73 : decode cX1_init 73 = .ok (.aload_n 0, 1) := by decide +kernel
theorem dX1_init_74 : decode cX1_init 74 = .ok (.iconst (-1), 1) := by decide +kernel
theorem dX1_init_75 : decode cX1_init 75 = .ok (.putfield 40, 3) := by decide +kernel
theorem dX1_init_78 : decode cX1_init 78 = .ok (.return_, 1) := by decide +kernel
theorem dX1_copyFrom_0 : decode cX1_copyFrom 0 = .ok (.aload_n 1, 1) := by decide +kernel
theorem dX1_copyFrom_1 : decode cX1_copyFrom 1 = .ok (.getfield 9, 3) := by decide +kernel
theorem dX1_copyFrom_4 : decode cX1_copyFrom 4 = .ok (.iconst 0, 1) := by decide +kernel
theorem dX1_copyFrom_5 : decode cX1_copyFrom 5 = .ok (.aload_n 0, 1) := by decide +kernel
theorem dX1_copyFrom_6 : decode cX1_copyFrom 6 = .ok (.getfield 9, 3) := by decide +kernel
theorem dX1_copyFrom_9 : decode cX1_copyFrom 9 = .ok (.iconst 0, 1) := by decide +kernel
theorem dX1_copyFrom_10 : decode cX1_copyFrom 10 = .ok (.bipush 6, 2) := by decide +kernel
theorem dX1_copyFrom_12 : decode cX1_copyFrom 12 = .ok (.invokestatic 43, 3) := by decide +kernel
theorem dX1_copyFrom_15 : decode cX1_copyFrom 15 = .ok (.aload_n 1, 1) := by decide +kernel
theorem dX1_copyFrom_16 : decode cX1_copyFrom 16 = .ok (.getfield 15, 3) := by decide +kernel
theorem dX1_copyFrom_19 : decode cX1_copyFrom 19 = .ok (.iconst 0, 1) := by decide +kernel
theorem dX1_copyFrom_20 : decode cX1_copyFrom 20 = .ok (.aload_n 0, 1) := by decide +kernel
theorem dX1_copyFrom_21 : decode cX1_copyFrom 21 = .ok (.getfield 15, 3) := by decide +kernel
theorem dX1_copyFrom_24 : decode cX1_copyFrom 24 = .ok (.iconst 0, 1) := by decide +kernel
theorem dX1_copyFrom_25 : decode cX1_copyFrom 25 = .ok (.bipush 6, 2) := by decide +kernel
theorem dX1_copyFrom_27 : decode cX1_copyFrom 27 = .ok (.invokestatic 43, 3) := by decide +kernel
theorem dX1_copyFrom_30 : decode cX1_copyFrom 30 = .ok (.aload_n 1, 1) := by decide +kernel
theorem dX1_copyFrom_31 : decode cX1_copyFrom 31 = .ok (.getfield 18, 3) := by decide +kernel
theorem dX1_copyFrom_34 : decode cX1_copyFrom 34 = .ok (.iconst 0, 1) := by decide +kernel
theorem dX1_copyFrom_35 : decode cX1_copyFrom 35 = .ok (.aload_n 0, 1) := by decide +kernel
theorem dX1_copyFrom_36 : decode cX1_copyFrom 36 = .ok (.getfield 18, 3) := by decide +kernel
theorem dX1_copyFrom_39 : decode cX1_copyFrom 39 = .ok (.iconst 0, 1) := by decide +kernel
theorem dX1_copyFrom_40 : decode cX1_copyFrom 40 = .ok (.bipush 6, 2) := by decide +kernel
theorem dX1_copyFrom_42 : decode cX1_copyFrom 42 = .ok (.invokestatic 43, 3) := by decide +kernel
theorem dX1_copyFrom_45 : decode cX1_copyFrom 45 = .ok (.aload_n 1, 1) := by decide +kernel
theorem dX1_copyFrom_46 : decode cX1_copyFrom 46 = .ok (.getfield 21, 3) := by decide +kernel
theorem dX1_copyFrom_49 : decode cX1_copyFrom 49 = .ok (.iconst 0, 1) := by decide +kernel
theorem dX1_copyFrom_50 : decode cX1_copyFrom 50 = .ok (.aload_n 0, 1) := by decide +kernel
theorem dX1_copyFrom_51 : decode cX1_copyFrom 51 = .ok (.getfield 21, 3) := by decide +kernel
theorem dX1_copyFrom_54 : decode cX1_copyFrom 54 = .ok (.iconst 0, 1) := by decide +kernel
theorem dX1_copyFrom_55 : decode cX1_copyFrom 55 = .ok (.bipush 6, 2) := by decide +kernel
theorem dX1_copyFrom_57 : decode cX1_copyFrom 57 = .ok (.invokestatic 43, 3) := by decide +kernel
theorem dX1_copyFrom_60 : decode cX1_copyFrom 60 = .ok (.aload_n 1, 1) := by decide +kernel
theorem dX1_copyFrom_61 : decode cX1_copyFrom 61 = .ok (.getfield 24, 3) := by decide +kernel
theorem dX1_copyFrom_64 : decode cX1_copyFrom 64 = .ok (.iconst 0, 1) := by decide +kernel
theorem dX1_copyFrom_65 : decode cX1_copyFrom 65 = .ok (.aload_n 0, 1) := by decide +kernel
theorem dX1_copyFrom_66 : decode cX1_copyFrom 66 = .ok (.getfield 24, 3) := by decide +kernel
theorem dX1_copyFrom_69 : decode cX1_copyFrom 69 = .ok (.iconst 0, 1) := by decide +kernel
theorem dX1_copyFrom_70 : decode cX1_copyFrom 70 = .ok (.bipush 6, 2) := by decide +kernel
theorem dX1_copyFrom_72 : decode cX1_copyFrom 72 = .ok (.invokestatic 43, 3) := by decide +kernel
theorem dX1_copyFrom_75 : decode cX1_copyFrom 75 = .ok (.aload_n 1, 1) := by decide +kernel
theorem dX1_copyFrom_76 : decode cX1_copyFrom 76 = .ok (.getfield 27, 3) := by decide +kernel
theorem dX1_copyFrom_79 : decode cX1_copyFrom 79 = .ok (.iconst 0, 1) := by decide +kernel
theorem dX1_copyFrom_80 : decode cX1_copyFrom 80 = .ok (.aload_n 0, 1) := by decide +kernel
theorem dX1_copyFrom_81 : decode cX1_copyFrom 81 = .ok (.getfield 27, 3) := by decide +kernel
theorem dX1_copyFrom_84 : decode cX1_copyFrom 84 = .ok (.iconst 0, 1) := by decide +kernel
theorem dX1_copyFrom_85 : decode cX1_copyFrom 85 = .ok (.bipush 6, 2) := by decide +kernel
theorem dX1_copyFrom_87 : decode cX1_copyFrom 87 = .ok (.invokestatic 43, 3) := by decide +kernel
theorem dX1_copyFrom_90 : decode cX1_copyFrom 90 = .ok (.aload_n 1, 1) := by decide +kernel
theorem dX1_copyFrom_91 : decode cX1_copyFrom 91 = .ok (.getfield 30, 3) := by decide +kernel
theorem dX1_copyFrom_94 : decode cX1_copyFrom 94 = .ok (.iconst 0, 1) := by decide +kernel
theorem dX1_copyFrom_95 : decode cX1_copyFrom 95 = .ok (.aload_n 0, 1) := by decide +kernel
theorem dX1_copyFrom_96 : decode cX1_copyFrom 96 = .ok (.getfield 30, 3) := by decide +kernel
theorem dX1_copyFrom_99 : decode cX1_copyFrom 99 = .ok (.iconst 0, 1) := by decide +kernel
theorem dX1_copyFrom_100 : decode cX1_copyFrom 100 = .ok (.bipush 6, 2) := by decide +kernel
theorem dX1_copyFrom_102 : decode cX1_copyFrom 102 = .ok (.invokestatic 43, 3) := by decide +kernel
theorem dX1_copyFrom_105 : decode cX1_copyFrom 105 = .ok (.aload_n 0, 1) := by decide +kernel
theorem dX1_copyFrom_106 : decode cX1_copyFrom 106 = .ok (.aload_n 1, 1) := by decide +kernel
theorem dX1_copyFrom_107 : decode cX1_copyFrom 107 = .ok (.getfield 49, 3) := by decide +kernel
theorem dX1_copyFrom_110 : decode cX1_copyFrom 110 = .ok (.putfield 49, 3) := by decide +kernel
theorem dX1_copyFrom_113 : decode cX1_copyFrom 113 = .ok (.aload_n 0, 1) := by decide +kernel
theorem dX1_copyFrom_114 : decode cX1_copyFrom 114 = .ok (.aload_n 1, 1) := by decide +kernel
theorem dX1_copyFrom_115 : decode cX1_copyFrom 115 = .ok (.getfield 52, 3) := by decide +kernel
theorem dX1_copyFrom_118 : decode cX1_copyFrom 118 = .ok (.putfield 52, 3) := by decide +kernel
theorem dX1_copyFrom_121 : decode cX1_copyFrom 121 = .ok (.aload_n 0, 1) := by decide +kernel
theorem dX1_copyFrom_122 : decode cX1_copyFrom 122 = .ok (.aload_n 1, 1) := by decide +kernel
theorem dX1_copyFrom_123 : decode cX1_copyFrom 123 = .ok (.getfield 36, 3) := by decide +kernel
theorem dX1_copyFrom_126 : decode cX1_copyFrom 126 = .ok (.putfield 36, 3) := by decide +kernel
theorem dX1_copyFrom_129 : decode cX1_copyFrom 129 = .ok (.aload_n 0, 1) := by decide +kernel
theorem dX1_copyFrom_130 : decode cX1_copyFrom 130 = .ok (.aload_n 1, 1) := by decide +kernel
theorem dX1_copyFrom_131 : decode cX1_copyFrom 131 = .ok (.getfield 40, 3) := by decide +kernel
theorem dX1_copyFrom_134 : decode cX1_copyFrom 134 = .ok (.putfield 40, 3) := by decide +kernel
theorem dX1_copyFrom_137 : decode cX1_copyFrom 137 = .ok (.return_, 1) := by decide +kernel
theorem dX1_isStreet_0 : decode cX1_isStreet 0 = .ok (.iload_n 1, 1) := by decide +kernel
theorem dX1_isStreet_1 : decode cX1_isStreet 1 = .ok (.ifCond .lt 15, 3) := by decide +kernel
theorem dX1_isStreet_4 : decode cX1_isStreet 4 = .ok (.iload_n 1, 1) := by decide +kernel
theorem dX1_isStreet_5 : decode cX1_isStreet 5 = .ok (.aload_n 0, 1) := by decide +kernel
theorem dX1_isStreet_6 : decode cX1_isStreet 6 = .ok (.getfield 49, 3) := by decide +kernel
theorem dX1_isStreet_9 : decode cX1_isStreet 9 = .ok (.if_icmp .ge 7, 3) := by decide +kernel
theorem dX1_isStreet_12 : decode cX1_isStreet 12 = .ok (.iconst 1, 1) := by decide +kernel
theorem dX1_isStreet_13 : decode cX1_isStreet 13 = .ok (.goto 4, 3) := by decide +kernel
theorem dX1_isStreet_16 : decode cX1_isStreet 16 = .ok (.iconst 0, 1) := by decide +kernel
theorem dX1_isStreet_17 : decode cX1_isStreet 17 = .ok (.ireturn, 1) := by decide +kernel
theorem dX1_isFull_0 : decode cX1_isFull 0 = .ok (.aload_n 0, 1) := by decide +kernel
theorem dX1_isFull_1 : decode cX1_isFull 1 = .ok (.getfield 49, 3) := by decide +kernel
theorem dX1_isFull_4 : decode cX1_isFull 4 = .ok (.bipush 6, 2) := by decide +kernel
theorem dX1_isFull_6 : decode cX1_isFull 6 = .ok (.if_icmp .lt 7, 3) := by decide +kernel
theorem dX1_isFull_9 : decode cX1_isFull 9 = .ok (.iconst 1, 1) := by decide +kernel
theorem dX1_isFull_10 : decode cX1_isFull 10 = .ok (.goto 4, 3) := by decide +kernel
theorem dX1_isFull_13 : decode cX1_isFull 13 = .ok (.iconst 0, 1) := by decide +kernel
theorem dX1_isFull_14 : decode cX1_isFull 14 = .ok (.ireturn, 1) := by decide +kernel
theorem dX1_tell_0 : decode cX1_tell 0 = .ok (.aload_n 0, 1) := by decide +kernel
theorem dX1_tell_1 : decode cX1_tell 1 = .ok (.invokevirtual 55, 3) := by decide +kernel
theorem dX1_tell_4 : decode cX1_tell 4 = .ok (.ifCond .ne 14, 3) := by decide +kernel
theorem dX1_tell_7 : decode cX1_tell 7 = .ok (.iload_n 3, 1) := by decide +kernel
theorem dX1_tell_8 : decode cX1_tell 8 = .ok (.iconst 3, 1) := by decide +kernel
theorem dX1_tell_9 : decode cX1_tell 9 = .ok (.if_icmp .gt 9, 3) := by decide +kernel
theorem dX1_tell_12 : decode cX1_tell 12 = .ok (.iload 4, 2) := by decide +kernel
theorem dX1_tell_14 : decode cX1_tell 14 = .ok (.iconst 4, 1) := by decide +kernel
theorem dX1_tell_15 : decode cX1_tell 15 = .ok (.if_icmp .le 5, 3) := by decide +kernel
theorem dX1_tell_18 : decode cX1_tell 18 = .ok (.iconst 0, 1) := by decide +kernel
theorem dX1_tell_19 : decode cX1_tell 19 = .ok (.ireturn, 1) := by decide +kernel
theorem dX1_tell_20 : decode cX1_tell 20 = .ok (.aload_n 0, 1) := by decide +kernel
theorem dX1_tell_21 : decode cX1_tell 21 = .ok (.getfield 49, 3) := by decide +kernel
theorem dX1_tell_24 : decode cX1_tell 24 = .ok (.iconst 1, 1) := by decide +kernel
theorem dX1_tell_25 : decode cX1_tell 25 = .ok (.isub, 1) := by decide +kernel
theorem dX1_tell_26 : decode cX1_tell 26 = .ok (.istore 5, 2) := by decide +kernel
theorem dX1_tell_28 : decode cX1_tell 28 = .ok (.aload_n 0, 1) := by decide +kernel
theorem dX1_tell_29 : decode cX1_tell 29 = .ok (.iload 5, 2) := by decide +kernel
theorem dX1_tell_31 : decode cX1_tell 31 = .ok (.invokevirtual 59, 3) := by decide +kernel
theorem dX1_tell_34 : decode cX1_tell 34 = .ok (.ifCond .eq 24, 3) := by decide +kernel
theorem dX1_tell_37 : decode cX1_tell 37 = .ok (.aload_n 0, 1) := by decide +kernel
theorem dX1_tell_38 : decode cX1_tell 38 = .ok (.getfield 27, 3) := by decide +kernel
theorem dX1_tell_41 : decode cX1_tell 41 = .ok (.iload 5, 2) := by decide +kernel
theorem dX1_tell_43 : decode cX1_tell 43 = .ok (.iaload, 1) := by decide +kernel
theorem dX1_tell_44 : decode cX1_tell 44 = .ok (.ifCond .ne 14, 3) := by decide +kernel
theorem dX1_tell_47 : decode cX1_tell 47 = .ok (.aload_n 0, 1) := by decide +kernel
theorem dX1_tell_48 : decode cX1_tell 48 = .ok (.getfield 27, 3) := by decide +kernel
theorem dX1_tell_51 : decode cX1_tell 51 = .ok (.iload 5, 2) := by decide +kernel
theorem dX1_tell_53 : decode cX1_tell 53 = .ok (.aload_n 0, 1) := by decide +kernel
theorem dX1_tell_54 : decode cX1_tell 54 = .ok (.getfield 49, 3) := by decide +kernel
theorem dX1_tell_57 : decode cX1_tell 57 = .ok (.iastore, 1) := by decide +kernel
theorem dX1_tell_58 : decode cX1_tell 58 = .ok (.aload_n 0, 1) := by decide +kernel
theorem dX1_tell_59 : decode cX1_tell 59 = .ok (.iload_n 1, 1) := by decide +kernel
theorem dX1_tell_60 : decode cX1_tell 60 = .ok (.iload_n 2, 1) := by decide +kernel
theorem dX1_tell_61 : decode cX1_tell 61 = .ok (.iload_n 3, 1) := by decide +kernel
theorem dX1_tell_62 : decode cX1_tell 62 = .ok (.iload 4, 2) := by decide +kernel
theorem dX1_tell_64 : decode cX1_tell 64 = .ok (.invokevirtual 63, 3) := by decide +kernel
theorem dX1_tell_67 : decode cX1_tell 67 = .ok (.iconst 1, 1) := by decide +kernel
theorem dX1_tell_68 : decode cX1_tell 68 = .ok (.ireturn, 1) := by decide +kernel
theorem dX1_add_0 : decode cX1_add 0 = .ok (.aload_n 0, 1) := by decide +kernel
theorem dX1_add_1 : decode cX1_add 1 = .ok (.invokevirtual 55, 3) := by decide +kernel
theorem dX1_add_4 : decode cX1_add 4 = .ok (.ifCond .eq 4, 3) := by decide +kernel
theorem dX1_add_7 : decode cX1_add 7 = .ok (.return_, 1) := by decide +kernel
theorem dX1_add_8 : decode cX1_add 8 = .ok (.aload_n 0, 1) := by decide +kernel
theorem dX1_add_9 : decode cX1_add 9 = .ok (.getfield 9, 3) := by decide +kernel
theorem dX1_add_12 : decode cX1_add 12 = .ok (.aload_n 0, 1) := by decide +kernel
theorem dX1_add_13 : decode cX1_add 13 = .ok (.getfield 49, 3) := by decide +kernel
theorem dX1_add_16 : decode cX1_add 16 = .ok (.iload_n 1, 1) := by decide +kernel
theorem dX1_add_17 : decode cX1_add 17 = .ok (.iastore, 1) := by decide +kernel
theorem dX1_add_18 : decode cX1_add 18 = .ok (.aload_n 0, 1) := by decide +kernel
theorem dX1_add_19 : decode cX1_add 19 = .ok (.getfield 15, 3) := by decide +kernel
theorem dX1_add_22 : decode cX1_add 22 = .ok (.aload_n 0, 1) := by decide +kernel
theorem dX1_add_23 : decode cX1_add 23 = .ok (.getfield 49, 3) := by decide +kernel
theorem dX1_add_26 : decode cX1_add 26 = .ok (.iload_n 2, 1) := by decide +kernel
theorem dX1_add_27 : decode cX1_add 27 = .ok (.iastore, 1) := by decide +kernel
theorem dX1_add_28 : decode cX1_add 28 = .ok (.aload_n 0, 1) := by decide +kernel
theorem dX1_add_29 : decode cX1_add 29 = .ok (.getfield 18, 3) := by decide +kernel
theorem dX1_add_32 : decode cX1_add 32 = .ok (.aload_n 0, 1) := by decide +kernel
theorem dX1_add_33 : decode cX1_add 33 = .ok (.getfield 49, 3) := by decide +kernel
theorem dX1_add_36 : decode cX1_add 36 = .ok (.iload_n 3, 1) := by decide +kernel
theorem dX1_add_37 : decode cX1_add 37 = .ok (.iastore, 1) := by decide +kernel
theorem dX1_add_38 : decode cX1_add 38 = .ok (.aload_n 0, 1) := by decide +kernel
theorem dX1_add_39 : decode cX1_add 39 = .ok (.getfield 21, 3) := by decide +kernel
theorem dX1_add_42 : decode cX1_add 42 = .ok (.aload_n 0, 1) := by decide +kernel
theorem dX1_add_43 : decode cX1_add 43 = .ok (.getfield 49, 3) := by decide +kernel
theorem dX1_add_46 : decode cX1_add 46 = .ok (.iload 4, 2) := by decide +kernel
theorem dX1_add_48 : decode cX1_add 48 = .ok (.iastore, 1) := by decide +kernel
theorem dX1_add_49 : decode cX1_add 49 = .ok (.aload_n 0, 1) := by decide +kernel
theorem dX1_add_50 : decode cX1_add 50 = .ok (.getfield 24, 3) := by decide +kernel
theorem dX1_add_53 : decode cX1_add 53 = .ok (.aload_n 0, 1) := by decide +kernel
theorem dX1_add_54 : decode cX1_add 54 = .ok (.getfield 49, 3) := by decide +kernel
theorem dX1_add_57 : decode cX1_add 57 = .ok (.bipush 9, 2) := by decide +kernel
theorem dX1_add_59 : decode cX1_add 59 = .ok (.iastore, 1) := by decide +kernel
theorem dX1_add_60 : decode cX1_add 60 = .ok (.aload_n 0, 1) := by decide +kernel
theorem dX1_add_61 : decode cX1_add 61 = .ok (.getfield 27, 3) := by decide +kernel
theorem dX1_add_64 : decode cX1_add 64 = .ok (.aload_n 0, 1) := by decide +kernel
theorem dX1_add_65 : decode cX1_add 65 = .ok (.getfield 49, 3) := by decide +kernel
theorem dX1_add_68 : decode cX1_add 68 = .ok (.iconst 0, 1) := by decide +kernel
theorem dX1_add_69 : decode cX1_add 69 = .ok (.iastore, 1) := by decide +kernel
theorem dX1_add_70 : decode cX1_add 70 = .ok (.aload_n 0, 1) := by decide +kernel
theorem dX1_add_71 : decode cX1_add 71 = .ok (.getfield 30, 3) := by decide +kernel
theorem dX1_add_74 : decode cX1_add 74 = .ok (.aload_n 0, 1) := by decide +kernel
theorem dX1_add_75 : decode cX1_add 75 = .ok (.getfield 49, 3) := by decide +kernel
theorem dX1_add_78 : decode cX1_add 78 = .ok (.iconst 0, 1) := by decide +kernel
theorem dX1_add_79 : decode cX1_add 79 = .ok (.iastore, 1) := by decide +kernel
theorem dX1_add_80 : decode cX1_add 80 = .ok (.aload_n 0, 1) := by decide +kernel
theorem dX1_add_81 : decode cX1_add 81 = .ok (.dup, 1) := by decide +kernel
theorem dX1_add_82 : decode cX1_add 82 = .ok (.getfield 49, 3) := by decide +kernel
theorem dX1_add_85 : decode cX1_add 85 = .ok (.iconst 1, 1) := by decide +kernel
theorem dX1_add_86 : decode cX1_add 86 = .ok (.iadd, 1) := by decide +kernel
theorem dX1_add_87 : decode cX1_add 87 = .ok (.putfield 49, 3) := by decide +kernel
theorem dX1_add_90 : decode cX1_add 90 = .ok (.return_, 1) := by decide +kernel
theorem dX1_tellWhoMends_0 : decode cX1_tellWhoMends 0 = .ok (.aload_n 0, 1) := by decide +kernel
theorem dX1_tellWhoMends_1 : decode cX1_tellWhoMends 1 = .ok (.iload_n 1, 1) := by decide +kernel
theorem dX1_tellWhoMends_2 : decode cX1_tellWhoMends 2 = .ok (.invokevirtual 59, 3) := by decide +kernel
theorem dX1_tellWhoMends_5 : decode cX1_tellWhoMends 5 = .ok (.ifCond .eq 11, 3) := by decide +kernel
theorem dX1_tellWhoMends_8 : decode cX1_tellWhoMends 8 = .ok (.aload_n 0, 1) := by decide +kernel
theorem dX1_tellWhoMends_9 : decode cX1_tellWhoMends 9 = .ok (.iload_n 2, 1) := by decide +kernel
theorem dX1_tellWhoMends_10 : decode cX1_tellWhoMends 10 = .ok (.invokevirtual 59, 3) := by decide +kernel
theorem dX1_tellWhoMends_13 : decode cX1_tellWhoMends 13 = .ok (.ifCond .ne 5, 3) := by decide +kernel
theorem dX1_tellWhoMends_16 : decode cX1_tellWhoMends 16 = .ok (.iconst 0, 1) := by decide +kernel
theorem dX1_tellWhoMends_17 : decode cX1_tellWhoMends 17 = .ok (.ireturn, 1) := by decide +kernel
theorem dX1_tellWhoMends_18 : decode cX1_tellWhoMends 18 = .ok (.aload_n 0, 1) := by decide +kernel
theorem dX1_tellWhoMends_19 : decode cX1_tellWhoMends 19 = .ok (.getfield 27, 3) := by decide +kernel
theorem dX1_tellWhoMends_22 : decode cX1_tellWhoMends 22 = .ok (.iload_n 1, 1) := by decide +kernel
theorem dX1_tellWhoMends_23 : decode cX1_tellWhoMends 23 = .ok (.iload_n 2, 1) := by decide +kernel
theorem dX1_tellWhoMends_24 : decode cX1_tellWhoMends 24 = .ok (.iastore, 1) := by decide +kernel
theorem dX1_tellWhoMends_25 : decode cX1_tellWhoMends 25 = .ok (.iconst 1, 1) := by decide +kernel
theorem dX1_tellWhoMends_26 : decode cX1_tellWhoMends 26 = .ok (.ireturn, 1) := by decide +kernel
theorem dX1_tellPence_0 : decode cX1_tellPence 0 = .ok (.aload_n 0, 1) := by decide +kernel
theorem dX1_tellPence_1 : decode cX1_tellPence 1 = .ok (.iload_n 1, 1) := by decide +kernel
theorem dX1_tellPence_2 : decode cX1_tellPence 2 = .ok (.invokevirtual 59, 3) := by decide +kernel
theorem dX1_tellPence_5 : decode cX1_tellPence 5 = .ok (.ifCond .ne 5, 3) := by decide +kernel
theorem dX1_tellPence_8 : decode cX1_tellPence 8 = .ok (.iconst 0, 1) := by decide +kernel
theorem dX1_tellPence_9 : decode cX1_tellPence 9 = .ok (.ireturn, 1) := by decide +kernel
theorem dX1_tellPence_10 : decode cX1_tellPence 10 = .ok (.aload_n 0, 1) := by decide +kernel
theorem dX1_tellPence_11 : decode cX1_tellPence 11 = .ok (.getfield 24, 3) := by decide +kernel
theorem dX1_tellPence_14 : decode cX1_tellPence 14 = .ok (.iload_n 1, 1) := by decide +kernel
theorem dX1_tellPence_15 : decode cX1_tellPence 15 = .ok (.iload_n 2, 1) := by decide +kernel
theorem dX1_tellPence_16 : decode cX1_tellPence 16 = .ok (.iastore, 1) := by decide +kernel
theorem dX1_tellPence_17 : decode cX1_tellPence 17 = .ok (.iconst 1, 1) := by decide +kernel
theorem dX1_tellPence_18 : decode cX1_tellPence 18 = .ok (.ireturn, 1) := by decide +kernel
theorem dX1_putBehind_0 : decode cX1_putBehind 0 = .ok (.aload_n 0, 1) := by decide +kernel
theorem dX1_putBehind_1 : decode cX1_putBehind 1 = .ok (.invokevirtual 55, 3) := by decide +kernel
theorem dX1_putBehind_4 : decode cX1_putBehind 4 = .ok (.ifCond .ne 11, 3) := by decide +kernel
theorem dX1_putBehind_7 : decode cX1_putBehind 7 = .ok (.aload_n 0, 1) := by decide +kernel
theorem dX1_putBehind_8 : decode cX1_putBehind 8 = .ok (.iload_n 1, 1) := by decide +kernel
theorem dX1_putBehind_9 : decode cX1_putBehind 9 = .ok (.invokevirtual 59, 3) := by decide +kernel
theorem dX1_putBehind_12 : decode cX1_putBehind 12 = .ok (.ifCond .ne 4, 3) := by decide +kernel
theorem dX1_putBehind_15 : decode cX1_putBehind 15 = .ok (.return_, 1) := by decide +kernel
theorem dX1_putBehind_16 : decode cX1_putBehind 16 = .ok (.aload_n 0, 1) := by decide +kernel
theorem dX1_putBehind_17 : decode cX1_putBehind 17 = .ok (.getfield 49, 3) := by decide +kernel
theorem dX1_putBehind_20 : decode cX1_putBehind 20 = .ok (.istore_n 3, 1) := by decide +kernel
theorem dX1_putBehind_21 : decode cX1_putBehind 21 = .ok (.aload_n 0, 1) := by decide +kernel
theorem dX1_putBehind_22 : decode cX1_putBehind 22 = .ok (.iconst 0, 1) := by decide +kernel
theorem dX1_putBehind_23 : decode cX1_putBehind 23 = .ok (.iconst 0, 1) := by decide +kernel
theorem dX1_putBehind_24 : decode cX1_putBehind 24 = .ok (.iconst 0, 1) := by decide +kernel
theorem dX1_putBehind_25 : decode cX1_putBehind 25 = .ok (.iload_n 2, 1) := by decide +kernel
theorem dX1_putBehind_26 : decode cX1_putBehind 26 = .ok (.invokevirtual 63, 3) := by decide +kernel
theorem dX1_putBehind_29 : decode cX1_putBehind 29 = .ok (.aload_n 0, 1) := by decide +kernel
theorem dX1_putBehind_30 : decode cX1_putBehind 30 = .ok (.getfield 24, 3) := by decide +kernel
theorem dX1_putBehind_33 : decode cX1_putBehind 33 = .ok (.iload_n 3, 1) := by decide +kernel
theorem dX1_putBehind_34 : decode cX1_putBehind 34 = .ok (.iconst 0, 1) := by decide +kernel
theorem dX1_putBehind_35 : decode cX1_putBehind 35 = .ok (.iastore, 1) := by decide +kernel
theorem dX1_putBehind_36 : decode cX1_putBehind 36 = .ok (.aload_n 0, 1) := by decide +kernel
theorem dX1_putBehind_37 : decode cX1_putBehind 37 = .ok (.getfield 27, 3) := by decide +kernel
theorem dX1_putBehind_40 : decode cX1_putBehind 40 = .ok (.iload_n 3, 1) := by decide +kernel
theorem dX1_putBehind_41 : decode cX1_putBehind 41 = .ok (.aload_n 0, 1) := by decide +kernel
theorem dX1_putBehind_42 : decode cX1_putBehind 42 = .ok (.getfield 27, 3) := by decide +kernel
theorem dX1_putBehind_45 : decode cX1_putBehind 45 = .ok (.iload_n 1, 1) := by decide +kernel
theorem dX1_putBehind_46 : decode cX1_putBehind 46 = .ok (.iaload, 1) := by decide +kernel
theorem dX1_putBehind_47 : decode cX1_putBehind 47 = .ok (.iastore, 1) := by decide +kernel
theorem dX1_putBehind_48 : decode cX1_putBehind 48 = .ok (.aload_n 0, 1) := by decide +kernel
theorem dX1_putBehind_49 : decode cX1_putBehind 49 = .ok (.getfield 27, 3) := by decide +kernel
theorem dX1_putBehind_52 : decode cX1_putBehind 52 = .ok (.iload_n 1, 1) := by decide +kernel
theorem dX1_putBehind_53 : decode cX1_putBehind 53 = .ok (.iload_n 3, 1) := by decide +kernel
theorem dX1_putBehind_54 : decode cX1_putBehind 54 = .ok (.iastore, 1) := by decide +kernel
theorem dX1_putBehind_55 : decode cX1_putBehind 55 = .ok (.return_, 1) := by decide +kernel
theorem dX1_leave_0 : decode cX1_leave 0 = .ok (.aload_n 0, 1) := by decide +kernel
theorem dX1_leave_1 : decode cX1_leave 1 = .ok (.iload_n 1, 1) := by decide +kernel
theorem dX1_leave_2 : decode cX1_leave 2 = .ok (.putfield 40, 3) := by decide +kernel
theorem dX1_leave_5 : decode cX1_leave 5 = .ok (.iconst 0, 1) := by decide +kernel
theorem dX1_leave_6 : decode cX1_leave 6 = .ok (.istore_n 2, 1) := by decide +kernel
theorem dX1_leave_7 : decode cX1_leave 7 = .ok (.iload_n 2, 1) := by decide +kernel
theorem dX1_leave_8 : decode cX1_leave 8 = .ok (.aload_n 0, 1) := by decide +kernel
theorem dX1_leave_9 : decode cX1_leave 9 = .ok (.getfield 49, 3) := by decide +kernel
theorem dX1_leave_12 : decode cX1_leave 12 = .ok (.if_icmp .ge 30, 3) := by decide +kernel
theorem dX1_leave_15 : decode cX1_leave 15 = .ok (.aload_n 0, 1) := by decide +kernel
theorem dX1_leave_16 : decode cX1_leave 16 = .ok (.getfield 27, 3) := by decide +kernel
theorem dX1_leave_19 : decode cX1_leave 19 = .ok (.iload_n 2, 1) := by decide +kernel
theorem dX1_leave_20 : decode cX1_leave 20 = .ok (.iaload, 1) := by decide +kernel
theorem dX1_leave_21 : decode cX1_leave 21 = .ok (.iload_n 1, 1) := by decide +kernel
theorem dX1_leave_22 : decode cX1_leave 22 = .ok (.if_icmp .ne 14, 3) := by decide +kernel
theorem dX1_leave_25 : decode cX1_leave 25 = .ok (.aload_n 0, 1) := by decide +kernel
theorem dX1_leave_26 : decode cX1_leave 26 = .ok (.getfield 27, 3) := by decide +kernel
theorem dX1_leave_29 : decode cX1_leave 29 = .ok (.iload_n 2, 1) := by decide +kernel
theorem dX1_leave_30 : decode cX1_leave 30 = .ok (.aload_n 0, 1) := by decide +kernel
theorem dX1_leave_31 : decode cX1_leave 31 = .ok (.iload_n 1, 1) := by decide +kernel
theorem dX1_leave_32 : decode cX1_leave 32 = .ok (.invokevirtual 67, 3) := by decide +kernel
theorem dX1_leave_35 : decode cX1_leave 35 = .ok (.iastore, 1) := by decide +kernel
theorem dX1_leave_36 : decode cX1_leave 36 = .ok (.iinc 2 1, 3) := by decide +kernel
theorem dX1_leave_39 : decode cX1_leave 39 = .ok (.goto (-32), 3) := by decide +kernel
theorem dX1_leave_42 : decode cX1_leave 42 = .ok (.return_, 1) := by decide +kernel
theorem dX1_mudBehind_0 : decode cX1_mudBehind 0 = .ok (.iconst 0, 1) := by decide +kernel
theorem dX1_mudBehind_1 : decode cX1_mudBehind 1 = .ok (.istore_n 2, 1) := by decide +kernel
theorem dX1_mudBehind_2 : decode cX1_mudBehind 2 = .ok (.iload_n 2, 1) := by decide +kernel
theorem dX1_mudBehind_3 : decode cX1_mudBehind 3 = .ok (.iload_n 1, 1) := by decide +kernel
theorem dX1_mudBehind_4 : decode cX1_mudBehind 4 = .ok (.if_icmp .ge 13, 3) := by decide +kernel
theorem dX1_mudBehind_7 : decode cX1_mudBehind 7 = .ok (.aload_n 0, 1) := by decide +kernel
theorem dX1_mudBehind_8 : decode cX1_mudBehind 8 = .ok (.invokevirtual 71, 3) := by decide +kernel
theorem dX1_mudBehind_11 : decode cX1_mudBehind 11 = .ok (.iinc 2 1, 3) := by decide +kernel
theorem dX1_mudBehind_14 : decode cX1_mudBehind 14 = .ok (.goto (-12), 3) := by decide +kernel
theorem dX1_mudBehind_17 : decode cX1_mudBehind 17 = .ok (.aload_n 0, 1) := by decide +kernel
theorem dX1_mudBehind_18 : decode cX1_mudBehind 18 = .ok (.invokevirtual 74, 3) := by decide +kernel
theorem dX1_mudBehind_21 : decode cX1_mudBehind 21 = .ok (.ireturn, 1) := by decide +kernel
theorem dX1_passYear_0 : decode cX1_passYear 0 = .ok (.iconst 0, 1) := by decide +kernel
theorem dX1_passYear_1 : decode cX1_passYear 1 = .ok (.istore_n 1, 1) := by decide +kernel
theorem dX1_passYear_2 : decode cX1_passYear 2 = .ok (.iload_n 1, 1) := by decide +kernel
theorem dX1_passYear_3 : decode cX1_passYear 3 = .ok (.aload_n 0, 1) := by decide +kernel
theorem dX1_passYear_4 : decode cX1_passYear 4 = .ok (.getfield 49, 3) := by decide +kernel
theorem dX1_passYear_7 : decode cX1_passYear 7 = .ok (.if_icmp .ge 40, 3) := by decide +kernel
theorem dX1_passYear_10 : decode cX1_passYear 10 = .ok (.aload_n 0, 1) := by decide +kernel
theorem dX1_passYear_11 : decode cX1_passYear 11 = .ok (.getfield 15, 3) := by decide +kernel
theorem dX1_passYear_14 : decode cX1_passYear 14 = .ok (.iload_n 1, 1) := by decide +kernel
theorem dX1_passYear_15 : decode cX1_passYear 15 = .ok (.bipush 9, 2) := by decide +kernel
theorem dX1_passYear_17 : decode cX1_passYear 17 = .ok (.aload_n 0, 1) := by decide +kernel
theorem dX1_passYear_18 : decode cX1_passYear 18 = .ok (.getfield 15, 3) := by decide +kernel
theorem dX1_passYear_21 : decode cX1_passYear 21 = .ok (.iload_n 1, 1) := by decide +kernel
theorem dX1_passYear_22 : decode cX1_passYear 22 = .ok (.iaload, 1) := by decide +kernel
theorem dX1_passYear_23 : decode cX1_passYear 23 = .ok (.aload_n 0, 1) := by decide +kernel
theorem dX1_passYear_24 : decode cX1_passYear 24 = .ok (.getfield 18, 3) := by decide +kernel
theorem dX1_passYear_27 : decode cX1_passYear 27 = .ok (.iload_n 1, 1) := by decide +kernel
theorem dX1_passYear_28 : decode cX1_passYear 28 = .ok (.iaload, 1) := by decide +kernel
theorem dX1_passYear_29 : decode cX1_passYear 29 = .ok (.iadd, 1) := by decide +kernel
theorem dX1_passYear_30 : decode cX1_passYear 30 = .ok (.invokestatic 78, 3) := by decide +kernel
theorem dX1_passYear_33 : decode cX1_passYear 33 = .ok (.iastore, 1) := by decide +kernel
theorem dX1_passYear_34 : decode cX1_passYear 34 = .ok (.aload_n 0, 1) := by decide +kernel
theorem dX1_passYear_35 : decode cX1_passYear 35 = .ok (.getfield 33, 3) := by decide +kernel
theorem dX1_passYear_38 : decode cX1_passYear 38 = .ok (.iload_n 1, 1) := by decide +kernel
theorem dX1_passYear_39 : decode cX1_passYear 39 = .ok (.iconst 0, 1) := by decide +kernel
theorem dX1_passYear_40 : decode cX1_passYear 40 = .ok (.iastore, 1) := by decide +kernel
theorem dX1_passYear_41 : decode cX1_passYear 41 = .ok (.iinc 1 1, 3) := by decide +kernel
theorem dX1_passYear_44 : decode cX1_passYear 44 = .ok (.goto (-42), 3) := by decide +kernel
theorem dX1_passYear_47 : decode cX1_passYear 47 = .ok (.iconst 0, 1) := by decide +kernel
theorem dX1_passYear_48 : decode cX1_passYear 48 = .ok (.istore_n 1, 1) := by decide +kernel
theorem dX1_passYear_49 : decode cX1_passYear 49 = .ok (.iload_n 1, 1) := by decide +kernel
theorem dX1_passYear_50 : decode cX1_passYear 50 = .ok (.aload_n 0, 1) := by decide +kernel
theorem dX1_passYear_51 : decode cX1_passYear 51 = .ok (.getfield 49, 3) := by decide +kernel
theorem dX1_passYear_54 : decode cX1_passYear 54 = .ok (.if_icmp .ge 44, 3) := by decide +kernel
theorem dX1_passYear_57 : decode cX1_passYear 57 = .ok (.aload_n 0, 1) := by decide +kernel
theorem dX1_passYear_58 : decode cX1_passYear 58 = .ok (.getfield 27, 3) := by decide +kernel
theorem dX1_passYear_61 : decode cX1_passYear 61 = .ok (.iload_n 1, 1) := by decide +kernel
theorem dX1_passYear_62 : decode cX1_passYear 62 = .ok (.iaload, 1) := by decide +kernel
theorem dX1_passYear_63 : decode cX1_passYear 63 = .ok (.istore_n 2, 1) := by decide +kernel
theorem dX1_passYear_64 : decode cX1_passYear 64 = .ok (.aload_n 0, 1) := by decide +kernel
theorem dX1_passYear_65 : decode cX1_passYear 65 = .ok (.iload_n 2, 1) := by decide +kernel
theorem dX1_passYear_66 : decode cX1_passYear 66 = .ok (.invokevirtual 59, 3) := by decide +kernel
theorem dX1_passYear_69 : decode cX1_passYear 69 = .ok (.ifCond .eq 23, 3) := by decide +kernel
theorem dX1_passYear_72 : decode cX1_passYear 72 = .ok (.aload_n 0, 1) := by decide +kernel
theorem dX1_passYear_73 : decode cX1_passYear 73 = .ok (.getfield 33, 3) := by decide +kernel
theorem dX1_passYear_76 : decode cX1_passYear 76 = .ok (.iload_n 2, 1) := by decide +kernel
theorem dX1_passYear_77 : decode cX1_passYear 77 = .ok (.dup2, 1) := by decide +kernel
theorem dX1_passYear_78 : decode cX1_passYear 78 = .ok (.iaload, 1) := by decide +kernel
theorem dX1_passYear_79 : decode cX1_passYear 79 = .ok (.aload_n 0, 1) := by decide +kernel
theorem dX1_passYear_80 : decode cX1_passYear 80 = .ok (.iload_n 1, 1) := by decide +kernel
theorem dX1_passYear_81 : decode cX1_passYear 81 = .ok (.aload_n 0, 1) := by decide +kernel
theorem dX1_passYear_82 : decode cX1_passYear 82 = .ok (.getfield 15, 3) := by decide +kernel
theorem dX1_passYear_85 : decode cX1_passYear 85 = .ok (.iload_n 2, 1) := by decide +kernel
theorem dX1_passYear_86 : decode cX1_passYear 86 = .ok (.iaload, 1) := by decide +kernel
theorem dX1_passYear_87 : decode cX1_passYear 87 = .ok (.invokevirtual 84, 3) := by decide +kernel
theorem dX1_passYear_90 : decode cX1_passYear 90 = .ok (.iadd, 1) := by decide +kernel
theorem dX1_passYear_91 : decode cX1_passYear 91 = .ok (.iastore, 1) := by decide +kernel
theorem dX1_passYear_92 : decode cX1_passYear 92 = .ok (.iinc 1 1, 3) := by decide +kernel
theorem dX1_passYear_95 : decode cX1_passYear 95 = .ok (.goto (-46), 3) := by decide +kernel
theorem dX1_passYear_98 : decode cX1_passYear 98 = .ok (.iconst 0, 1) := by decide +kernel
theorem dX1_passYear_99 : decode cX1_passYear 99 = .ok (.istore_n 1, 1) := by decide +kernel
theorem dX1_passYear_100 : decode cX1_passYear 100 = .ok (.iload_n 1, 1) := by decide +kernel
theorem dX1_passYear_101 : decode cX1_passYear 101 = .ok (.aload_n 0, 1) := by decide +kernel
theorem dX1_passYear_102 : decode cX1_passYear 102 = .ok (.getfield 49, 3) := by decide +kernel
theorem dX1_passYear_105 : decode cX1_passYear 105 = .ok (.if_icmp .ge 44, 3) := by decide +kernel
theorem dX1_passYear_108 : decode cX1_passYear 108 = .ok (.aload_n 0, 1) := by decide +kernel
theorem dX1_passYear_109 : decode cX1_passYear 109 = .ok (.getfield 30, 3) := by decide +kernel
theorem dX1_passYear_112 : decode cX1_passYear 112 = .ok (.iload_n 1, 1) := by decide +kernel
theorem dX1_passYear_113 : decode cX1_passYear 113 = .ok (.aload_n 0, 1) := by decide +kernel
theorem dX1_passYear_114 : decode cX1_passYear 114 = .ok (.getfield 33, 3) := by decide +kernel
theorem dX1_passYear_117 : decode cX1_passYear 117 = .ok (.iload_n 1, 1) := by decide +kernel
theorem dX1_passYear_118 : decode cX1_passYear 118 = .ok (.iaload, 1) := by decide +kernel
theorem dX1_passYear_119 : decode cX1_passYear 119 = .ok (.iastore, 1) := by decide +kernel
theorem dX1_passYear_120 : decode cX1_passYear 120 = .ok (.aload_n 0, 1) := by decide +kernel
theorem dX1_passYear_121 : decode cX1_passYear 121 = .ok (.getfield 15, 3) := by decide +kernel
theorem dX1_passYear_124 : decode cX1_passYear 124 = .ok (.iload_n 1, 1) := by decide +kernel
theorem dX1_passYear_125 : decode cX1_passYear 125 = .ok (.iconst 0, 1) := by decide +kernel
theorem dX1_passYear_126 : decode cX1_passYear 126 = .ok (.aload_n 0, 1) := by decide +kernel
theorem dX1_passYear_127 : decode cX1_passYear 127 = .ok (.getfield 15, 3) := by decide +kernel
theorem dX1_passYear_130 : decode cX1_passYear 130 = .ok (.iload_n 1, 1) := by decide +kernel
theorem dX1_passYear_131 : decode cX1_passYear 131 = .ok (.iaload, 1) := by decide +kernel
theorem dX1_passYear_132 : decode cX1_passYear 132 = .ok (.aload_n 0, 1) := by decide +kernel
theorem dX1_passYear_133 : decode cX1_passYear 133 = .ok (.getfield 33, 3) := by decide +kernel
theorem dX1_passYear_136 : decode cX1_passYear 136 = .ok (.iload_n 1, 1) := by decide +kernel
theorem dX1_passYear_137 : decode cX1_passYear 137 = .ok (.iaload, 1) := by decide +kernel
theorem dX1_passYear_138 : decode cX1_passYear 138 = .ok (.isub, 1) := by decide +kernel
theorem dX1_passYear_139 : decode cX1_passYear 139 = .ok (.invokestatic 87, 3) := by decide +kernel
theorem dX1_passYear_142 : decode cX1_passYear 142 = .ok (.iastore, 1) := by decide +kernel
theorem dX1_passYear_143 : decode cX1_passYear 143 = .ok (.iinc 1 1, 3) := by decide +kernel
theorem dX1_passYear_146 : decode cX1_passYear 146 = .ok (.goto (-46), 3) := by decide +kernel
theorem dX1_passYear_149 : decode cX1_passYear 149 = .ok (.aload_n 0, 1) := by decide +kernel
theorem dX1_passYear_150 : decode cX1_passYear 150 = .ok (.invokevirtual 90, 3) := by decide +kernel
theorem dX1_passYear_153 : decode cX1_passYear 153 = .ok (.aload_n 0, 1) := by decide +kernel
theorem dX1_passYear_154 : decode cX1_passYear 154 = .ok (.dup, 1) := by decide +kernel
theorem dX1_passYear_155 : decode cX1_passYear 155 = .ok (.getfield 52, 3) := by decide +kernel
theorem dX1_passYear_158 : decode cX1_passYear 158 = .ok (.iconst 1, 1) := by decide +kernel
theorem dX1_passYear_159 : decode cX1_passYear 159 = .ok (.iadd, 1) := by decide +kernel
theorem dX1_passYear_160 : decode cX1_passYear 160 = .ok (.putfield 52, 3) := by decide +kernel
theorem dX1_passYear_163 : decode cX1_passYear 163 = .ok (.return_, 1) := by decide +kernel
theorem dX1_workOf_0 : decode cX1_workOf 0 = .ok (.iload_n 1, 1) := by decide +kernel
theorem dX1_workOf_1 : decode cX1_workOf 1 = .ok (.aload_n 0, 1) := by decide +kernel
theorem dX1_workOf_2 : decode cX1_workOf 2 = .ok (.getfield 36, 3) := by decide +kernel
theorem dX1_workOf_5 : decode cX1_workOf 5 = .ok (.if_icmp .eq 11, 3) := by decide +kernel
theorem dX1_workOf_8 : decode cX1_workOf 8 = .ok (.iload_n 1, 1) := by decide +kernel
theorem dX1_workOf_9 : decode cX1_workOf 9 = .ok (.aload_n 0, 1) := by decide +kernel
theorem dX1_workOf_10 : decode cX1_workOf 10 = .ok (.getfield 40, 3) := by decide +kernel
theorem dX1_workOf_13 : decode cX1_workOf 13 = .ok (.if_icmp .ne 5, 3) := by decide +kernel
theorem dX1_workOf_16 : decode cX1_workOf 16 = .ok (.iconst 0, 1) := by decide +kernel
theorem dX1_workOf_17 : decode cX1_workOf 17 = .ok (.ireturn, 1) := by decide +kernel
theorem dX1_workOf_18 : decode cX1_workOf 18 = .ok (.aload_n 0, 1) := by decide +kernel
theorem dX1_workOf_19 : decode cX1_workOf 19 = .ok (.getfield 21, 3) := by decide +kernel
theorem dX1_workOf_22 : decode cX1_workOf 22 = .ok (.iload_n 1, 1) := by decide +kernel
theorem dX1_workOf_23 : decode cX1_workOf 23 = .ok (.iaload, 1) := by decide +kernel
theorem dX1_workOf_24 : decode cX1_workOf 24 = .ok (.istore_n 3, 1) := by decide +kernel
theorem dX1_workOf_25 : decode cX1_workOf 25 = .ok (.aload_n 0, 1) := by decide +kernel
theorem dX1_workOf_26 : decode cX1_workOf 26 = .ok (.getfield 9, 3) := by decide +kernel
theorem dX1_workOf_29 : decode cX1_workOf 29 = .ok (.iload_n 1, 1) := by decide +kernel
theorem dX1_workOf_30 : decode cX1_workOf 30 = .ok (.iaload, 1) := by decide +kernel
theorem dX1_workOf_31 : decode cX1_workOf 31 = .ok (.tableswitch 91 1 5 #[33, 48, 54, 71, 75], 33) := by decide +kernel
theorem dX1_workOf_64 : decode cX1_workOf 64 = .ok (.aload_n 0, 1) := by decide +kernel
theorem dX1_workOf_65 : decode cX1_workOf 65 = .ok (.getfield 52, 3) := by decide +kernel
theorem dX1_workOf_68 : decode cX1_workOf 68 = .ok (.iconst 2, 1) := by decide +kernel
theorem dX1_workOf_69 : decode cX1_workOf 69 = .ok (.irem, 1) := by decide +kernel
theorem dX1_workOf_70 : decode cX1_workOf 70 = .ok (.ifCond .ne 7, 3) := by decide +kernel
theorem dX1_workOf_73 : decode cX1_workOf 73 = .ok (.iload_n 3, 1) := by decide +kernel
theorem dX1_workOf_74 : decode cX1_workOf 74 = .ok (.goto 4, 3) := by decide +kernel
theorem dX1_workOf_77 : decode cX1_workOf 77 = .ok (.iconst 0, 1) := by decide +kernel
theorem dX1_workOf_78 : decode cX1_workOf 78 = .ok (.ireturn, 1) := by decide +kernel
theorem dX1_workOf_79 : decode cX1_workOf 79 = .ok (.aload_n 0, 1) := by decide +kernel
theorem dX1_workOf_80 : decode cX1_workOf 80 = .ok (.iload_n 1, 1) := by decide +kernel
theorem dX1_workOf_81 : decode cX1_workOf 81 = .ok (.invokevirtual 93, 3) := by decide +kernel
theorem dX1_workOf_84 : decode cX1_workOf 84 = .ok (.ireturn, 1) := by decide +kernel
theorem dX1_workOf_85 : decode cX1_workOf 85 = .ok (.aload_n 0, 1) := by decide +kernel
theorem dX1_workOf_86 : decode cX1_workOf 86 = .ok (.getfield 24, 3) := by decide +kernel
theorem dX1_workOf_89 : decode cX1_workOf 89 = .ok (.iload_n 1, 1) := by decide +kernel
theorem dX1_workOf_90 : decode cX1_workOf 90 = .ok (.iaload, 1) := by decide +kernel
theorem dX1_workOf_91 : decode cX1_workOf 91 = .ok (.ifCond .le 9, 3) := by decide +kernel
theorem dX1_workOf_94 : decode cX1_workOf 94 = .ok (.iload_n 3, 1) := by decide +kernel
theorem dX1_workOf_95 : decode cX1_workOf 95 = .ok (.iconst 1, 1) := by decide +kernel
theorem dX1_workOf_96 : decode cX1_workOf 96 = .ok (.iadd, 1) := by decide +kernel
theorem dX1_workOf_97 : decode cX1_workOf 97 = .ok (.goto 4, 3) := by decide +kernel
theorem dX1_workOf_100 : decode cX1_workOf 100 = .ok (.iconst 0, 1) := by decide +kernel
theorem dX1_workOf_101 : decode cX1_workOf 101 = .ok (.ireturn, 1) := by decide +kernel
theorem dX1_workOf_102 : decode cX1_workOf 102 = .ok (.iconst 2, 1) := by decide +kernel
theorem dX1_workOf_103 : decode cX1_workOf 103 = .ok (.iload_n 3, 1) := by decide +kernel
theorem dX1_workOf_104 : decode cX1_workOf 104 = .ok (.imul, 1) := by decide +kernel
theorem dX1_workOf_105 : decode cX1_workOf 105 = .ok (.ireturn, 1) := by decide +kernel
theorem dX1_workOf_106 : decode cX1_workOf 106 = .ok (.iload_n 2, 1) := by decide +kernel
theorem dX1_workOf_107 : decode cX1_workOf 107 = .ok (.bipush 6, 2) := by decide +kernel
theorem dX1_workOf_109 : decode cX1_workOf 109 = .ok (.if_icmp .lt 7, 3) := by decide +kernel
theorem dX1_workOf_112 : decode cX1_workOf 112 = .ok (.iload_n 3, 1) := by decide +kernel
theorem dX1_workOf_113 : decode cX1_workOf 113 = .ok (.goto 8, 3) := by decide +kernel
theorem dX1_workOf_116 : decode cX1_workOf 116 = .ok (.aload_n 0, 1) := by decide +kernel
theorem dX1_workOf_117 : decode cX1_workOf 117 = .ok (.iload_n 1, 1) := by decide +kernel
theorem dX1_workOf_118 : decode cX1_workOf 118 = .ok (.invokevirtual 93, 3) := by decide +kernel
theorem dX1_workOf_121 : decode cX1_workOf 121 = .ok (.ireturn, 1) := by decide +kernel
theorem dX1_workOf_122 : decode cX1_workOf 122 = .ok (.iload_n 3, 1) := by decide +kernel
theorem dX1_workOf_123 : decode cX1_workOf 123 = .ok (.ireturn, 1) := by decide +kernel
theorem dX1_trustOf_0 : decode cX1_trustOf 0 = .ok (.aload_n 0, 1) := by decide +kernel
theorem dX1_trustOf_1 : decode cX1_trustOf 1 = .ok (.getfield 21, 3) := by decide +kernel
theorem dX1_trustOf_4 : decode cX1_trustOf 4 = .ok (.iload_n 1, 1) := by decide +kernel
theorem dX1_trustOf_5 : decode cX1_trustOf 5 = .ok (.iaload, 1) := by decide +kernel
theorem dX1_trustOf_6 : decode cX1_trustOf 6 = .ok (.aload_n 0, 1) := by decide +kernel
theorem dX1_trustOf_7 : decode cX1_trustOf 7 = .ok (.getfield 30, 3) := by decide +kernel
theorem dX1_trustOf_10 : decode cX1_trustOf 10 = .ok (.iload_n 1, 1) := by decide +kernel
theorem dX1_trustOf_11 : decode cX1_trustOf 11 = .ok (.iaload, 1) := by decide +kernel
theorem dX1_trustOf_12 : decode cX1_trustOf 12 = .ok (.iconst 1, 1) := by decide +kernel
theorem dX1_trustOf_13 : decode cX1_trustOf 13 = .ok (.iadd, 1) := by decide +kernel
theorem dX1_trustOf_14 : decode cX1_trustOf 14 = .ok (.invokestatic 78, 3) := by decide +kernel
theorem dX1_trustOf_17 : decode cX1_trustOf 17 = .ok (.ireturn, 1) := by decide +kernel
theorem dX1_payAll_0 : decode cX1_payAll 0 = .ok (.iconst 0, 1) := by decide +kernel
theorem dX1_payAll_1 : decode cX1_payAll 1 = .ok (.istore_n 1, 1) := by decide +kernel
theorem dX1_payAll_2 : decode cX1_payAll 2 = .ok (.iconst 0, 1) := by decide +kernel
theorem dX1_payAll_3 : decode cX1_payAll 3 = .ok (.istore_n 2, 1) := by decide +kernel
theorem dX1_payAll_4 : decode cX1_payAll 4 = .ok (.iload_n 2, 1) := by decide +kernel
theorem dX1_payAll_5 : decode cX1_payAll 5 = .ok (.aload_n 0, 1) := by decide +kernel
theorem dX1_payAll_6 : decode cX1_payAll 6 = .ok (.getfield 49, 3) := by decide +kernel
theorem dX1_payAll_9 : decode cX1_payAll 9 = .ok (.if_icmp .ge 42, 3) := by decide +kernel
theorem dX1_payAll_12 : decode cX1_payAll 12 = .ok (.aload_n 0, 1) := by decide +kernel
theorem dX1_payAll_13 : decode cX1_payAll 13 = .ok (.getfield 9, 3) := by decide +kernel
theorem dX1_payAll_16 : decode cX1_payAll 16 = .ok (.iload_n 2, 1) := by decide +kernel
theorem dX1_payAll_17 : decode cX1_payAll 17 = .ok (.iaload, 1) := by decide +kernel
theorem dX1_payAll_18 : decode cX1_payAll 18 = .ok (.iconst 3, 1) := by decide +kernel
theorem dX1_payAll_19 : decode cX1_payAll 19 = .ok (.if_icmp .ne 26, 3) := by decide +kernel
theorem dX1_payAll_22 : decode cX1_payAll 22 = .ok (.aload_n 0, 1) := by decide +kernel
theorem dX1_payAll_23 : decode cX1_payAll 23 = .ok (.getfield 24, 3) := by decide +kernel
theorem dX1_payAll_26 : decode cX1_payAll 26 = .ok (.iload_n 2, 1) := by decide +kernel
theorem dX1_payAll_27 : decode cX1_payAll 27 = .ok (.iaload, 1) := by decide +kernel
theorem dX1_payAll_28 : decode cX1_payAll 28 = .ok (.ifCond .le 17, 3) := by decide +kernel
theorem dX1_payAll_31 : decode cX1_payAll 31 = .ok (.iload_n 2, 1) := by decide +kernel
theorem dX1_payAll_32 : decode cX1_payAll 32 = .ok (.aload_n 0, 1) := by decide +kernel
theorem dX1_payAll_33 : decode cX1_payAll 33 = .ok (.getfield 40, 3) := by decide +kernel
theorem dX1_payAll_36 : decode cX1_payAll 36 = .ok (.if_icmp .eq 9, 3) := by decide +kernel
theorem dX1_payAll_39 : decode cX1_payAll 39 = .ok (.iload_n 1, 1) := by decide +kernel
theorem dX1_payAll_40 : decode cX1_payAll 40 = .ok (.iconst 1, 1) := by decide +kernel
theorem dX1_payAll_41 : decode cX1_payAll 41 = .ok (.iload_n 2, 1) := by decide +kernel
theorem dX1_payAll_42 : decode cX1_payAll 42 = .ok (.ishl, 1) := by decide +kernel
theorem dX1_payAll_43 : decode cX1_payAll 43 = .ok (.ior, 1) := by decide +kernel
theorem dX1_payAll_44 : decode cX1_payAll 44 = .ok (.istore_n 1, 1) := by decide +kernel
theorem dX1_payAll_45 : decode cX1_payAll 45 = .ok (.iinc 2 1, 3) := by decide +kernel
theorem dX1_payAll_48 : decode cX1_payAll 48 = .ok (.goto (-44), 3) := by decide +kernel
theorem dX1_payAll_51 : decode cX1_payAll 51 = .ok (.iconst 0, 1) := by decide +kernel
theorem dX1_payAll_52 : decode cX1_payAll 52 = .ok (.istore_n 2, 1) := by decide +kernel
theorem dX1_payAll_53 : decode cX1_payAll 53 = .ok (.iload_n 2, 1) := by decide +kernel
theorem dX1_payAll_54 : decode cX1_payAll 54 = .ok (.aload_n 0, 1) := by decide +kernel
theorem dX1_payAll_55 : decode cX1_payAll 55 = .ok (.getfield 49, 3) := by decide +kernel
theorem dX1_payAll_58 : decode cX1_payAll 58 = .ok (.if_icmp .ge 23, 3) := by decide +kernel
theorem dX1_payAll_61 : decode cX1_payAll 61 = .ok (.iload_n 1, 1) := by decide +kernel
theorem dX1_payAll_62 : decode cX1_payAll 62 = .ok (.iload_n 2, 1) := by decide +kernel
theorem dX1_payAll_63 : decode cX1_payAll 63 = .ok (.ishr, 1) := by decide +kernel
theorem dX1_payAll_64 : decode cX1_payAll 64 = .ok (.iconst 1, 1) := by decide +kernel
theorem dX1_payAll_65 : decode cX1_payAll 65 = .ok (.iand, 1) := by decide +kernel
theorem dX1_payAll_66 : decode cX1_payAll 66 = .ok (.iconst 1, 1) := by decide +kernel
theorem dX1_payAll_67 : decode cX1_payAll 67 = .ok (.if_icmp .ne 8, 3) := by decide +kernel
theorem dX1_payAll_70 : decode cX1_payAll 70 = .ok (.aload_n 0, 1) := by decide +kernel
theorem dX1_payAll_71 : decode cX1_payAll 71 = .ok (.iload_n 2, 1) := by decide +kernel
theorem dX1_payAll_72 : decode cX1_payAll 72 = .ok (.invokevirtual 96, 3) := by decide +kernel
theorem dX1_payAll_75 : decode cX1_payAll 75 = .ok (.iinc 2 1, 3) := by decide +kernel
theorem dX1_payAll_78 : decode cX1_payAll 78 = .ok (.goto (-25), 3) := by decide +kernel
theorem dX1_payAll_81 : decode cX1_payAll 81 = .ok (.return_, 1) := by decide +kernel
theorem dX1_pay_0 : decode cX1_pay 0 = .ok (.iconst 0, 1) := by decide +kernel
theorem dX1_pay_1 : decode cX1_pay 1 = .ok (.istore_n 2, 1) := by decide +kernel
theorem dX1_pay_2 : decode cX1_pay 2 = .ok (.iload_n 2, 1) := by decide +kernel
theorem dX1_pay_3 : decode cX1_pay 3 = .ok (.aload_n 0, 1) := by decide +kernel
theorem dX1_pay_4 : decode cX1_pay 4 = .ok (.getfield 49, 3) := by decide +kernel
theorem dX1_pay_7 : decode cX1_pay 7 = .ok (.if_icmp .ge 57, 3) := by decide +kernel
theorem dX1_pay_10 : decode cX1_pay 10 = .ok (.aload_n 0, 1) := by decide +kernel
theorem dX1_pay_11 : decode cX1_pay 11 = .ok (.getfield 27, 3) := by decide +kernel
theorem dX1_pay_14 : decode cX1_pay 14 = .ok (.iload_n 2, 1) := by decide +kernel
theorem dX1_pay_15 : decode cX1_pay 15 = .ok (.iaload, 1) := by decide +kernel
theorem dX1_pay_16 : decode cX1_pay 16 = .ok (.iload_n 1, 1) := by decide +kernel
theorem dX1_pay_17 : decode cX1_pay 17 = .ok (.if_icmp .ne 41, 3) := by decide +kernel
theorem dX1_pay_20 : decode cX1_pay 20 = .ok (.iload_n 2, 1) := by decide +kernel
theorem dX1_pay_21 : decode cX1_pay 21 = .ok (.aload_n 0, 1) := by decide +kernel
theorem dX1_pay_22 : decode cX1_pay 22 = .ok (.getfield 40, 3) := by decide +kernel
theorem dX1_pay_25 : decode cX1_pay 25 = .ok (.if_icmp .eq 33, 3) := by decide +kernel
theorem dX1_pay_28 : decode cX1_pay 28 = .ok (.aload_n 0, 1) := by decide +kernel
theorem dX1_pay_29 : decode cX1_pay 29 = .ok (.getfield 24, 3) := by decide +kernel
theorem dX1_pay_32 : decode cX1_pay 32 = .ok (.iload_n 1, 1) := by decide +kernel
theorem dX1_pay_33 : decode cX1_pay 33 = .ok (.dup2, 1) := by decide +kernel
theorem dX1_pay_34 : decode cX1_pay 34 = .ok (.iaload, 1) := by decide +kernel
theorem dX1_pay_35 : decode cX1_pay 35 = .ok (.iconst 1, 1) := by decide +kernel
theorem dX1_pay_36 : decode cX1_pay 36 = .ok (.isub, 1) := by decide +kernel
theorem dX1_pay_37 : decode cX1_pay 37 = .ok (.iastore, 1) := by decide +kernel
theorem dX1_pay_38 : decode cX1_pay 38 = .ok (.aload_n 0, 1) := by decide +kernel
theorem dX1_pay_39 : decode cX1_pay 39 = .ok (.getfield 24, 3) := by decide +kernel
theorem dX1_pay_42 : decode cX1_pay 42 = .ok (.iload_n 2, 1) := by decide +kernel
theorem dX1_pay_43 : decode cX1_pay 43 = .ok (.bipush 99, 2) := by decide +kernel
theorem dX1_pay_45 : decode cX1_pay 45 = .ok (.aload_n 0, 1) := by decide +kernel
theorem dX1_pay_46 : decode cX1_pay 46 = .ok (.getfield 24, 3) := by decide +kernel
theorem dX1_pay_49 : decode cX1_pay 49 = .ok (.iload_n 2, 1) := by decide +kernel
theorem dX1_pay_50 : decode cX1_pay 50 = .ok (.iaload, 1) := by decide +kernel
theorem dX1_pay_51 : decode cX1_pay 51 = .ok (.iconst 1, 1) := by decide +kernel
theorem dX1_pay_52 : decode cX1_pay 52 = .ok (.iadd, 1) := by decide +kernel
theorem dX1_pay_53 : decode cX1_pay 53 = .ok (.invokestatic 78, 3) := by decide +kernel
theorem dX1_pay_56 : decode cX1_pay 56 = .ok (.iastore, 1) := by decide +kernel
theorem dX1_pay_57 : decode cX1_pay 57 = .ok (.return_, 1) := by decide +kernel
theorem dX1_pay_58 : decode cX1_pay 58 = .ok (.iinc 2 1, 3) := by decide +kernel
theorem dX1_pay_61 : decode cX1_pay 61 = .ok (.goto (-59), 3) := by decide +kernel
theorem dX1_pay_64 : decode cX1_pay 64 = .ok (.return_, 1) := by decide +kernel
theorem dX1_mudOf_0 : decode cX1_mudOf 0 = .ok (.aload_n 0, 1) := by decide +kernel
theorem dX1_mudOf_1 : decode cX1_mudOf 1 = .ok (.iload_n 1, 1) := by decide +kernel
theorem dX1_mudOf_2 : decode cX1_mudOf 2 = .ok (.invokevirtual 59, 3) := by decide +kernel
theorem dX1_mudOf_5 : decode cX1_mudOf 5 = .ok (.ifCond .eq 12, 3) := by decide +kernel
theorem dX1_mudOf_8 : decode cX1_mudOf 8 = .ok (.aload_n 0, 1) := by decide +kernel
theorem dX1_mudOf_9 : decode cX1_mudOf 9 = .ok (.getfield 15, 3) := by decide +kernel
theorem dX1_mudOf_12 : decode cX1_mudOf 12 = .ok (.iload_n 1, 1) := by decide +kernel
theorem dX1_mudOf_13 : decode cX1_mudOf 13 = .ok (.iaload, 1) := by decide +kernel
theorem dX1_mudOf_14 : decode cX1_mudOf 14 = .ok (.goto 4, 3) := by decide +kernel
theorem dX1_mudOf_17 : decode cX1_mudOf 17 = .ok (.iconst 0, 1) := by decide +kernel
theorem dX1_mudOf_18 : decode cX1_mudOf 18 = .ok (.ireturn, 1) := by decide +kernel
theorem dX1_mudOfAll_0 : decode cX1_mudOfAll 0 = .ok (.iconst 0, 1) := by decide +kernel
theorem dX1_mudOfAll_1 : decode cX1_mudOfAll 1 = .ok (.istore_n 1, 1) := by decide +kernel
theorem dX1_mudOfAll_2 : decode cX1_mudOfAll 2 = .ok (.iconst 0, 1) := by decide +kernel
theorem dX1_mudOfAll_3 : decode cX1_mudOfAll 3 = .ok (.istore_n 2, 1) := by decide +kernel
theorem dX1_mudOfAll_4 : decode cX1_mudOfAll 4 = .ok (.iload_n 2, 1) := by decide +kernel
theorem dX1_mudOfAll_5 : decode cX1_mudOfAll 5 = .ok (.aload_n 0, 1) := by decide +kernel
theorem dX1_mudOfAll_6 : decode cX1_mudOfAll 6 = .ok (.getfield 49, 3) := by decide +kernel
theorem dX1_mudOfAll_9 : decode cX1_mudOfAll 9 = .ok (.if_icmp .ge 18, 3) := by decide +kernel
theorem dX1_mudOfAll_12 : decode cX1_mudOfAll 12 = .ok (.iload_n 1, 1) := by decide +kernel
theorem dX1_mudOfAll_13 : decode cX1_mudOfAll 13 = .ok (.aload_n 0, 1) := by decide +kernel
theorem dX1_mudOfAll_14 : decode cX1_mudOfAll 14 = .ok (.getfield 15, 3) := by decide +kernel
theorem dX1_mudOfAll_17 : decode cX1_mudOfAll 17 = .ok (.iload_n 2, 1) := by decide +kernel
theorem dX1_mudOfAll_18 : decode cX1_mudOfAll 18 = .ok (.iaload, 1) := by decide +kernel
theorem dX1_mudOfAll_19 : decode cX1_mudOfAll 19 = .ok (.iadd, 1) := by decide +kernel
theorem dX1_mudOfAll_20 : decode cX1_mudOfAll 20 = .ok (.istore_n 1, 1) := by decide +kernel
theorem dX1_mudOfAll_21 : decode cX1_mudOfAll 21 = .ok (.iinc 2 1, 3) := by decide +kernel
theorem dX1_mudOfAll_24 : decode cX1_mudOfAll 24 = .ok (.goto (-20), 3) := by decide +kernel
theorem dX1_mudOfAll_27 : decode cX1_mudOfAll 27 = .ok (.iload_n 1, 1) := by decide +kernel
theorem dX1_mudOfAll_28 : decode cX1_mudOfAll 28 = .ok (.ireturn, 1) := by decide +kernel
theorem dX1_penceOfAll_0 : decode cX1_penceOfAll 0 = .ok (.iconst 0, 1) := by decide +kernel
theorem dX1_penceOfAll_1 : decode cX1_penceOfAll 1 = .ok (.istore_n 1, 1) := by decide +kernel
theorem dX1_penceOfAll_2 : decode cX1_penceOfAll 2 = .ok (.iconst 0, 1) := by decide +kernel
theorem dX1_penceOfAll_3 : decode cX1_penceOfAll 3 = .ok (.istore_n 2, 1) := by decide +kernel
theorem dX1_penceOfAll_4 : decode cX1_penceOfAll 4 = .ok (.iload_n 2, 1) := by decide +kernel
theorem dX1_penceOfAll_5 : decode cX1_penceOfAll 5 = .ok (.aload_n 0, 1) := by decide +kernel
theorem dX1_penceOfAll_6 : decode cX1_penceOfAll 6 = .ok (.getfield 49, 3) := by decide +kernel
theorem dX1_penceOfAll_9 : decode cX1_penceOfAll 9 = .ok (.if_icmp .ge 18, 3) := by decide +kernel
theorem dX1_penceOfAll_12 : decode cX1_penceOfAll 12 = .ok (.iload_n 1, 1) := by decide +kernel
theorem dX1_penceOfAll_13 : decode cX1_penceOfAll 13 = .ok (.aload_n 0, 1) := by decide +kernel
theorem dX1_penceOfAll_14 : decode cX1_penceOfAll 14 = .ok (.getfield 24, 3) := by decide +kernel
theorem dX1_penceOfAll_17 : decode cX1_penceOfAll 17 = .ok (.iload_n 2, 1) := by decide +kernel
theorem dX1_penceOfAll_18 : decode cX1_penceOfAll 18 = .ok (.iaload, 1) := by decide +kernel
theorem dX1_penceOfAll_19 : decode cX1_penceOfAll 19 = .ok (.iadd, 1) := by decide +kernel
theorem dX1_penceOfAll_20 : decode cX1_penceOfAll 20 = .ok (.istore_n 1, 1) := by decide +kernel
theorem dX1_penceOfAll_21 : decode cX1_penceOfAll 21 = .ok (.iinc 2 1, 3) := by decide +kernel
theorem dX1_penceOfAll_24 : decode cX1_penceOfAll 24 = .ok (.goto (-20), 3) := by decide +kernel
theorem dX1_penceOfAll_27 : decode cX1_penceOfAll 27 = .ok (.iload_n 1, 1) := by decide +kernel
theorem dX1_penceOfAll_28 : decode cX1_penceOfAll 28 = .ok (.ireturn, 1) := by decide +kernel
theorem dX1_muddiest_0 : decode cX1_muddiest 0 = .ok (.iconst (-1), 1) := by decide +kernel
theorem dX1_muddiest_1 : decode cX1_muddiest 1 = .ok (.istore_n 1, 1) := by decide +kernel
theorem dX1_muddiest_2 : decode cX1_muddiest 2 = .ok (.iconst 0, 1) := by decide +kernel
theorem dX1_muddiest_3 : decode cX1_muddiest 3 = .ok (.istore_n 2, 1) := by decide +kernel
theorem dX1_muddiest_4 : decode cX1_muddiest 4 = .ok (.iload_n 2, 1) := by decide +kernel
theorem dX1_muddiest_5 : decode cX1_muddiest 5 = .ok (.aload_n 0, 1) := by decide +kernel
theorem dX1_muddiest_6 : decode cX1_muddiest 6 = .ok (.getfield 49, 3) := by decide +kernel
theorem dX1_muddiest_9 : decode cX1_muddiest 9 = .ok (.if_icmp .ge 30, 3) := by decide +kernel
theorem dX1_muddiest_12 : decode cX1_muddiest 12 = .ok (.iload_n 1, 1) := by decide +kernel
theorem dX1_muddiest_13 : decode cX1_muddiest 13 = .ok (.iconst (-1), 1) := by decide +kernel
theorem dX1_muddiest_14 : decode cX1_muddiest 14 = .ok (.if_icmp .eq 17, 3) := by decide +kernel
theorem dX1_muddiest_17 : decode cX1_muddiest 17 = .ok (.aload_n 0, 1) := by decide +kernel
theorem dX1_muddiest_18 : decode cX1_muddiest 18 = .ok (.getfield 15, 3) := by decide +kernel
theorem dX1_muddiest_21 : decode cX1_muddiest 21 = .ok (.iload_n 2, 1) := by decide +kernel
theorem dX1_muddiest_22 : decode cX1_muddiest 22 = .ok (.iaload, 1) := by decide +kernel
theorem dX1_muddiest_23 : decode cX1_muddiest 23 = .ok (.aload_n 0, 1) := by decide +kernel
theorem dX1_muddiest_24 : decode cX1_muddiest 24 = .ok (.iload_n 1, 1) := by decide +kernel
theorem dX1_muddiest_25 : decode cX1_muddiest 25 = .ok (.invokevirtual 100, 3) := by decide +kernel
theorem dX1_muddiest_28 : decode cX1_muddiest 28 = .ok (.if_icmp .le 5, 3) := by decide +kernel
theorem dX1_muddiest_31 : decode cX1_muddiest 31 = .ok (.iload_n 2, 1) := by decide +kernel
theorem dX1_muddiest_32 : decode cX1_muddiest 32 = .ok (.istore_n 1, 1) := by decide +kernel
theorem dX1_muddiest_33 : decode cX1_muddiest 33 = .ok (.iinc 2 1, 3) := by decide +kernel
theorem dX1_muddiest_36 : decode cX1_muddiest 36 = .ok (.goto (-32), 3) := by decide +kernel
theorem dX1_muddiest_39 : decode cX1_muddiest 39 = .ok (.iload_n 1, 1) := by decide +kernel
theorem dX1_muddiest_40 : decode cX1_muddiest 40 = .ok (.ireturn, 1) := by decide +kernel
theorem dX1_liesLike_0 : decode cX1_liesLike 0 = .ok (.iconst 0, 1) := by decide +kernel
theorem dX1_liesLike_1 : decode cX1_liesLike 1 = .ok (.istore_n 2, 1) := by decide +kernel
theorem dX1_liesLike_2 : decode cX1_liesLike 2 = .ok (.iload_n 2, 1) := by decide +kernel
theorem dX1_liesLike_3 : decode cX1_liesLike 3 = .ok (.aload_n 0, 1) := by decide +kernel
theorem dX1_liesLike_4 : decode cX1_liesLike 4 = .ok (.getfield 49, 3) := by decide +kernel
theorem dX1_liesLike_7 : decode cX1_liesLike 7 = .ok (.if_icmp .ge 41, 3) := by decide +kernel
theorem dX1_liesLike_10 : decode cX1_liesLike 10 = .ok (.aload_n 0, 1) := by decide +kernel
theorem dX1_liesLike_11 : decode cX1_liesLike 11 = .ok (.getfield 15, 3) := by decide +kernel
theorem dX1_liesLike_14 : decode cX1_liesLike 14 = .ok (.iload_n 2, 1) := by decide +kernel
theorem dX1_liesLike_15 : decode cX1_liesLike 15 = .ok (.iaload, 1) := by decide +kernel
theorem dX1_liesLike_16 : decode cX1_liesLike 16 = .ok (.aload_n 1, 1) := by decide +kernel
theorem dX1_liesLike_17 : decode cX1_liesLike 17 = .ok (.getfield 15, 3) := by decide +kernel
theorem dX1_liesLike_20 : decode cX1_liesLike 20 = .ok (.iload_n 2, 1) := by decide +kernel
theorem dX1_liesLike_21 : decode cX1_liesLike 21 = .ok (.iaload, 1) := by decide +kernel
theorem dX1_liesLike_22 : decode cX1_liesLike 22 = .ok (.if_icmp .ne 18, 3) := by decide +kernel
theorem dX1_liesLike_25 : decode cX1_liesLike 25 = .ok (.aload_n 0, 1) := by decide +kernel
theorem dX1_liesLike_26 : decode cX1_liesLike 26 = .ok (.getfield 30, 3) := by decide +kernel
theorem dX1_liesLike_29 : decode cX1_liesLike 29 = .ok (.iload_n 2, 1) := by decide +kernel
theorem dX1_liesLike_30 : decode cX1_liesLike 30 = .ok (.iaload, 1) := by decide +kernel
theorem dX1_liesLike_31 : decode cX1_liesLike 31 = .ok (.aload_n 1, 1) := by decide +kernel
theorem dX1_liesLike_32 : decode cX1_liesLike 32 = .ok (.getfield 30, 3) := by decide +kernel
theorem dX1_liesLike_35 : decode cX1_liesLike 35 = .ok (.iload_n 2, 1) := by decide +kernel
theorem dX1_liesLike_36 : decode cX1_liesLike 36 = .ok (.iaload, 1) := by decide +kernel
theorem dX1_liesLike_37 : decode cX1_liesLike 37 = .ok (.if_icmp .eq 5, 3) := by decide +kernel
theorem dX1_liesLike_40 : decode cX1_liesLike 40 = .ok (.iconst 0, 1) := by decide +kernel
theorem dX1_liesLike_41 : decode cX1_liesLike 41 = .ok (.ireturn, 1) := by decide +kernel
theorem dX1_liesLike_42 : decode cX1_liesLike 42 = .ok (.iinc 2 1, 3) := by decide +kernel
theorem dX1_liesLike_45 : decode cX1_liesLike 45 = .ok (.goto (-43), 3) := by decide +kernel
theorem dX1_liesLike_48 : decode cX1_liesLike 48 = .ok (.iconst 1, 1) := by decide +kernel
theorem dX1_liesLike_49 : decode cX1_liesLike 49 = .ok (.ireturn, 1) := by decide +kernel
theorem dX1_fed_0 : decode cX1_fed 0 = .ok (.iconst 0, 1) := by decide +kernel
theorem dX1_fed_1 : decode cX1_fed 1 = .ok (.istore_n 2, 1) := by decide +kernel
theorem dX1_fed_2 : decode cX1_fed 2 = .ok (.iconst 0, 1) := by decide +kernel
theorem dX1_fed_3 : decode cX1_fed 3 = .ok (.istore_n 3, 1) := by decide +kernel
theorem dX1_fed_4 : decode cX1_fed 4 = .ok (.iload_n 3, 1) := by decide +kernel
theorem dX1_fed_5 : decode cX1_fed 5 = .ok (.aload_n 0, 1) := by decide +kernel
theorem dX1_fed_6 : decode cX1_fed 6 = .ok (.getfield 49, 3) := by decide +kernel
theorem dX1_fed_9 : decode cX1_fed 9 = .ok (.if_icmp .ge 22, 3) := by decide +kernel
theorem dX1_fed_12 : decode cX1_fed 12 = .ok (.aload_n 0, 1) := by decide +kernel
theorem dX1_fed_13 : decode cX1_fed 13 = .ok (.getfield 27, 3) := by decide +kernel
theorem dX1_fed_16 : decode cX1_fed 16 = .ok (.iload_n 3, 1) := by decide +kernel
theorem dX1_fed_17 : decode cX1_fed 17 = .ok (.iaload, 1) := by decide +kernel
theorem dX1_fed_18 : decode cX1_fed 18 = .ok (.iload_n 1, 1) := by decide +kernel
theorem dX1_fed_19 : decode cX1_fed 19 = .ok (.if_icmp .ne 6, 3) := by decide +kernel
theorem dX1_fed_22 : decode cX1_fed 22 = .ok (.iinc 2 1, 3) := by decide +kernel
theorem dX1_fed_25 : decode cX1_fed 25 = .ok (.iinc 3 1, 3) := by decide +kernel
theorem dX1_fed_28 : decode cX1_fed 28 = .ok (.goto (-24), 3) := by decide +kernel
theorem dX1_fed_31 : decode cX1_fed 31 = .ok (.iload_n 2, 1) := by decide +kernel
theorem dX1_fed_32 : decode cX1_fed 32 = .ok (.ireturn, 1) := by decide +kernel
theorem dX1_stepFrom_0 : decode cX1_stepFrom 0 = .ok (.aload_n 0, 1) := by decide +kernel
theorem dX1_stepFrom_1 : decode cX1_stepFrom 1 = .ok (.iload_n 1, 1) := by decide +kernel
theorem dX1_stepFrom_2 : decode cX1_stepFrom 2 = .ok (.invokevirtual 59, 3) := by decide +kernel
theorem dX1_stepFrom_5 : decode cX1_stepFrom 5 = .ok (.ifCond .eq 12, 3) := by decide +kernel
theorem dX1_stepFrom_8 : decode cX1_stepFrom 8 = .ok (.aload_n 0, 1) := by decide +kernel
theorem dX1_stepFrom_9 : decode cX1_stepFrom 9 = .ok (.getfield 27, 3) := by decide +kernel
theorem dX1_stepFrom_12 : decode cX1_stepFrom 12 = .ok (.iload_n 1, 1) := by decide +kernel
theorem dX1_stepFrom_13 : decode cX1_stepFrom 13 = .ok (.iaload, 1) := by decide +kernel
theorem dX1_stepFrom_14 : decode cX1_stepFrom 14 = .ok (.goto 4, 3) := by decide +kernel
theorem dX1_stepFrom_17 : decode cX1_stepFrom 17 = .ok (.iconst (-1), 1) := by decide +kernel
theorem dX1_stepFrom_18 : decode cX1_stepFrom 18 = .ok (.ireturn, 1) := by decide +kernel
theorem dX1_isOnRing_0 : decode cX1_isOnRing 0 = .ok (.iload_n 1, 1) := by decide +kernel
theorem dX1_isOnRing_1 : decode cX1_isOnRing 1 = .ok (.istore_n 2, 1) := by decide +kernel
theorem dX1_isOnRing_2 : decode cX1_isOnRing 2 = .ok (.iconst 0, 1) := by decide +kernel
theorem dX1_isOnRing_3 : decode cX1_isOnRing 3 = .ok (.istore_n 3, 1) := by decide +kernel
theorem dX1_isOnRing_4 : decode cX1_isOnRing 4 = .ok (.iload_n 3, 1) := by decide +kernel
theorem dX1_isOnRing_5 : decode cX1_isOnRing 5 = .ok (.aload_n 0, 1) := by decide +kernel
theorem dX1_isOnRing_6 : decode cX1_isOnRing 6 = .ok (.getfield 49, 3) := by decide +kernel
theorem dX1_isOnRing_9 : decode cX1_isOnRing 9 = .ok (.if_icmp .ge 22, 3) := by decide +kernel
theorem dX1_isOnRing_12 : decode cX1_isOnRing 12 = .ok (.aload_n 0, 1) := by decide +kernel
theorem dX1_isOnRing_13 : decode cX1_isOnRing 13 = .ok (.iload_n 2, 1) := by decide +kernel
theorem dX1_isOnRing_14 : decode cX1_isOnRing 14 = .ok (.invokevirtual 67, 3) := by decide +kernel
theorem dX1_isOnRing_17 : decode cX1_isOnRing 17 = .ok (.istore_n 2, 1) := by decide +kernel
theorem dX1_isOnRing_18 : decode cX1_isOnRing 18 = .ok (.iload_n 2, 1) := by decide +kernel
theorem dX1_isOnRing_19 : decode cX1_isOnRing 19 = .ok (.iload_n 1, 1) := by decide +kernel
theorem dX1_isOnRing_20 : decode cX1_isOnRing 20 = .ok (.if_icmp .ne 5, 3) := by decide +kernel
theorem dX1_isOnRing_23 : decode cX1_isOnRing 23 = .ok (.iconst 1, 1) := by decide +kernel
theorem dX1_isOnRing_24 : decode cX1_isOnRing 24 = .ok (.ireturn, 1) := by decide +kernel
theorem dX1_isOnRing_25 : decode cX1_isOnRing 25 = .ok (.iinc 3 1, 3) := by decide +kernel
theorem dX1_isOnRing_28 : decode cX1_isOnRing 28 = .ok (.goto (-24), 3) := by decide +kernel
theorem dX1_isOnRing_31 : decode cX1_isOnRing 31 = .ok (.iconst 0, 1) := by decide +kernel
theorem dX1_isOnRing_32 : decode cX1_isOnRing 32 = .ok (.ireturn, 1) := by decide +kernel
theorem dX1_leastOnTheWayFrom_0 : decode cX1_leastOnTheWayFrom 0 = .ok (.iload_n 1, 1) := by decide +kernel
theorem dX1_leastOnTheWayFrom_1 : decode cX1_leastOnTheWayFrom 1 = .ok (.istore_n 2, 1) := by decide +kernel
theorem dX1_leastOnTheWayFrom_2 : decode cX1_leastOnTheWayFrom 2 = .ok (.iload_n 1, 1) := by decide +kernel
theorem dX1_leastOnTheWayFrom_3 : decode cX1_leastOnTheWayFrom 3 = .ok (.istore_n 3, 1) := by decide +kernel
theorem dX1_leastOnTheWayFrom_4 : decode cX1_leastOnTheWayFrom 4 = .ok (.iconst 0, 1) := by decide +kernel
theorem dX1_leastOnTheWayFrom_5 : decode cX1_leastOnTheWayFrom 5 = .ok (.istore 4, 2) := by decide +kernel
theorem dX1_leastOnTheWayFrom_7 : decode cX1_leastOnTheWayFrom 7 = .ok (.iload 4, 2) := by decide +kernel
theorem dX1_leastOnTheWayFrom_9 : decode cX1_leastOnTheWayFrom 9 = .ok (.aload_n 0, 1) := by decide +kernel
theorem dX1_leastOnTheWayFrom_10 : decode cX1_leastOnTheWayFrom 10 = .ok (.getfield 49, 3) := by decide +kernel
theorem dX1_leastOnTheWayFrom_13 : decode cX1_leastOnTheWayFrom 13 = .ok (.if_icmp .ge 21, 3) := by decide +kernel
theorem dX1_leastOnTheWayFrom_16 : decode cX1_leastOnTheWayFrom 16 = .ok (.aload_n 0, 1) := by decide +kernel
theorem dX1_leastOnTheWayFrom_17 : decode cX1_leastOnTheWayFrom 17 = .ok (.iload_n 3, 1) := by decide +kernel
theorem dX1_leastOnTheWayFrom_18 : decode cX1_leastOnTheWayFrom 18 = .ok (.invokevirtual 67, 3) := by decide +kernel
theorem dX1_leastOnTheWayFrom_21 : decode cX1_leastOnTheWayFrom 21 = .ok (.istore_n 3, 1) := by decide +kernel
theorem dX1_leastOnTheWayFrom_22 : decode cX1_leastOnTheWayFrom 22 = .ok (.iload_n 2, 1) := by decide +kernel
theorem dX1_leastOnTheWayFrom_23 : decode cX1_leastOnTheWayFrom 23 = .ok (.iload_n 3, 1) := by decide +kernel
theorem dX1_leastOnTheWayFrom_24 : decode cX1_leastOnTheWayFrom 24 = .ok (.invokestatic 78, 3) := by decide +kernel
theorem dX1_leastOnTheWayFrom_27 : decode cX1_leastOnTheWayFrom 27 = .ok (.istore_n 2, 1) := by decide +kernel
theorem dX1_leastOnTheWayFrom_28 : decode cX1_leastOnTheWayFrom 28 = .ok (.iinc 4 1, 3) := by decide +kernel
theorem dX1_leastOnTheWayFrom_31 : decode cX1_leastOnTheWayFrom 31 = .ok (.goto (-24), 3) := by decide +kernel
theorem dX1_leastOnTheWayFrom_34 : decode cX1_leastOnTheWayFrom 34 = .ok (.iload_n 2, 1) := by decide +kernel
theorem dX1_leastOnTheWayFrom_35 : decode cX1_leastOnTheWayFrom 35 = .ok (.ireturn, 1) := by decide +kernel
theorem dJ0_length_8abf5_0 : decode cJ0_length_8abf5 0 = .ok (.aload_n 0, 1) := by decide +kernel
theorem dJ0_length_8abf5_1 : decode cJ0_length_8abf5 1 = .ok (.getfield 9, 3) := by decide +kernel
theorem dJ0_length_8abf5_4 : decode cJ0_length_8abf5 4 = .ok (.arraylength, 1) := by decide +kernel
theorem dJ0_length_8abf5_5 : decode cJ0_length_8abf5 5 = .ok (.aload_n 0, 1) := by decide +kernel
theorem dJ0_length_8abf5_6 : decode cJ0_length_8abf5 6 = .ok (.invokevirtual 335, 3) := by decide +kernel
theorem dJ0_length_8abf5_9 : decode cJ0_length_8abf5 9 = .ok (.ishr, 1) := by decide +kernel
theorem dJ0_length_8abf5_10 : decode cJ0_length_8abf5 10 = .ok (.ireturn, 1) := by decide +kernel
theorem dJ0_indexOf_0f7a4_0 : decode cJ0_indexOf_0f7a4 0 = .ok (.aload_n 0, 1) := by decide +kernel
theorem dJ0_indexOf_0f7a4_1 : decode cJ0_indexOf_0f7a4 1 = .ok (.iload_n 1, 1) := by decide +kernel
theorem dJ0_indexOf_0f7a4_2 : decode cJ0_indexOf_0f7a4 2 = .ok (.iconst 0, 1) := by decide +kernel
theorem dJ0_indexOf_0f7a4_3 : decode cJ0_indexOf_0f7a4 3 = .ok (.invokevirtual 633, 3) := by decide +kernel
theorem dJ0_indexOf_0f7a4_6 : decode cJ0_indexOf_0f7a4 6 = .ok (.ireturn, 1) := by decide +kernel
theorem dJ0_indexOf_7cf53_0 : decode cJ0_indexOf_7cf53 0 = .ok (.aload_n 0, 1) := by decide +kernel
theorem dJ0_indexOf_7cf53_1 : decode cJ0_indexOf_7cf53 1 = .ok (.invokevirtual 492, 3) := by decide +kernel
theorem dJ0_indexOf_7cf53_4 : decode cJ0_indexOf_7cf53 4 = .ok (.ifCond .eq 19, 3) := by decide +kernel
theorem dJ0_indexOf_7cf53_7 : decode cJ0_indexOf_7cf53 7 = .ok (.aload_n 0, 1) := by decide +kernel
theorem dJ0_indexOf_7cf53_8 : decode cJ0_indexOf_7cf53 8 = .ok (.getfield 9, 3) := by decide +kernel
theorem dJ0_indexOf_7cf53_11 : decode cJ0_indexOf_7cf53 11 = .ok (.iload_n 1, 1) := by decide +kernel
theorem dJ0_indexOf_7cf53_12 : decode cJ0_indexOf_7cf53 12 = .ok (.iload_n 2, 1) := by decide +kernel
theorem dJ0_indexOf_7cf53_13 : decode cJ0_indexOf_7cf53 13 = .ok (.aload_n 0, 1) := by decide +kernel
theorem dJ0_indexOf_7cf53_14 : decode cJ0_indexOf_7cf53 14 = .ok (.invokevirtual 505, 3) := by decide +kernel
theorem dJ0_indexOf_7cf53_17 : decode cJ0_indexOf_7cf53 17 = .ok (.invokestatic 637, 3) := by decide +kernel
theorem dJ0_indexOf_7cf53_20 : decode cJ0_indexOf_7cf53 20 = .ok (.goto 16, 3) := by decide +kernel
theorem dJ0_indexOf_7cf53_23 : decode cJ0_indexOf_7cf53 23 = .ok (.aload_n 0, 1) := by decide +kernel
theorem dJ0_indexOf_7cf53_24 : decode cJ0_indexOf_7cf53 24 = .ok (.getfield 9, 3) := by decide +kernel
theorem dJ0_indexOf_7cf53_27 : decode cJ0_indexOf_7cf53 27 = .ok (.iload_n 1, 1) := by decide +kernel
theorem dJ0_indexOf_7cf53_28 : decode cJ0_indexOf_7cf53 28 = .ok (.iload_n 2, 1) := by decide +kernel
theorem dJ0_indexOf_7cf53_29 : decode cJ0_indexOf_7cf53 29 = .ok (.aload_n 0, 1) := by decide +kernel
theorem dJ0_indexOf_7cf53_30 : decode cJ0_indexOf_7cf53 30 = .ok (.invokevirtual 505, 3) := by decide +kernel
theorem dJ0_indexOf_7cf53_33 : decode cJ0_indexOf_7cf53 33 = .ok (.invokestatic 640, 3) := by decide +kernel
theorem dJ0_indexOf_7cf53_36 : decode cJ0_indexOf_7cf53 36 = .ok (.ireturn, 1) := by decide +kernel
theorem dJ0_coder_7d493_0 : decode cJ0_coder_7d493 0 = .ok (.getstatic 38, 3) := by decide +kernel
theorem dJ0_coder_7d493_3 : decode cJ0_coder_7d493 3 = .ok (.ifCond .eq 10, 3) := by decide +kernel
theorem dJ0_coder_7d493_6 : decode cJ0_coder_7d493 6 = .ok (.aload_n 0, 1) := by decide +kernel
theorem dJ0_coder_7d493_7 : decode cJ0_coder_7d493 7 = .ok (.getfield 15, 3) := by decide +kernel
theorem dJ0_coder_7d493_10 : decode cJ0_coder_7d493 10 = .ok (.goto 4, 3) := by decide +kernel
theorem dJ0_coder_7d493_13 : decode cJ0_coder_7d493 13 = .ok (.iconst 1, 1) := by decide +kernel
theorem dJ0_coder_7d493_14 : decode cJ0_coder_7d493 14 = .ok (.ireturn, 1) := by decide +kernel
theorem dJ0_isLatin1_aae02_0 : decode cJ0_isLatin1_aae02 0 = .ok (.getstatic 38, 3) := by decide +kernel
theorem dJ0_isLatin1_aae02_3 : decode cJ0_isLatin1_aae02 3 = .ok (.ifCond .eq 14, 3) := by decide +kernel
theorem dJ0_isLatin1_aae02_6 : decode cJ0_isLatin1_aae02 6 = .ok (.aload_n 0, 1) := by decide +kernel
theorem dJ0_isLatin1_aae02_7 : decode cJ0_isLatin1_aae02 7 = .ok (.getfield 15, 3) := by decide +kernel
theorem dJ0_isLatin1_aae02_10 : decode cJ0_isLatin1_aae02 10 = .ok (.ifCond .ne 7, 3) := by decide +kernel
theorem dJ0_isLatin1_aae02_13 : decode cJ0_isLatin1_aae02 13 = .ok (.iconst 1, 1) := by decide +kernel
theorem dJ0_isLatin1_aae02_14 : decode cJ0_isLatin1_aae02 14 = .ok (.goto 4, 3) := by decide +kernel
theorem dJ0_isLatin1_aae02_17 : decode cJ0_isLatin1_aae02 17 = .ok (.iconst 0, 1) := by decide +kernel
theorem dJ0_isLatin1_aae02_18 : decode cJ0_isLatin1_aae02 18 = .ok (.ireturn, 1) := by decide +kernel
theorem dJ0_checkBoundsBeginEnd_23922_0 : decode cJ0_checkBoundsBeginEnd_23922 0 = .ok (.iload_n 0, 1) := by decide +kernel
theorem dJ0_checkBoundsBeginEnd_23922_1 : decode cJ0_checkBoundsBeginEnd_23922 1 = .ok (.iload_n 1, 1) := by decide +kernel
theorem dJ0_checkBoundsBeginEnd_23922_2 : decode cJ0_checkBoundsBeginEnd_23922 2 = .ok (.iload_n 2, 1) := by decide +kernel
theorem dJ0_checkBoundsBeginEnd_23922_3 : decode cJ0_checkBoundsBeginEnd_23922 3 = .ok (.getstatic 1053, 3) := by decide +kernel
theorem dJ0_checkBoundsBeginEnd_23922_6 : decode cJ0_checkBoundsBeginEnd_23922 6 = .ok (.invokestatic 1062, 3) := by decide +kernel
theorem dJ0_checkBoundsBeginEnd_23922_9 : decode cJ0_checkBoundsBeginEnd_23922 9 = .ok (.pop, 1) := by decide +kernel
theorem dJ0_checkBoundsBeginEnd_23922_10 : decode cJ0_checkBoundsBeginEnd_23922 10 = .ok (.return_, 1) := by decide +kernel
theorem dJ1_canEncode_9a6ad_0 : decode cJ1_canEncode_9a6ad 0 = .ok (.iload_n 0, 1) := by decide +kernel
theorem dJ1_canEncode_9a6ad_1 : decode cJ1_canEncode_9a6ad 1 = .ok (.ifCond .lt 14, 3) := by decide +kernel
theorem dJ1_canEncode_9a6ad_4 : decode cJ1_canEncode_9a6ad 4 = .ok (.iload_n 0, 1) := by decide +kernel
theorem dJ1_canEncode_9a6ad_5 : decode cJ1_canEncode_9a6ad 5 = .ok (.sipush 255, 3) := by decide +kernel
theorem dJ1_canEncode_9a6ad_8 : decode cJ1_canEncode_9a6ad 8 = .ok (.if_icmp .gt 7, 3) := by decide +kernel
theorem dJ1_canEncode_9a6ad_11 : decode cJ1_canEncode_9a6ad 11 = .ok (.iconst 1, 1) := by decide +kernel
theorem dJ1_canEncode_9a6ad_12 : decode cJ1_canEncode_9a6ad 12 = .ok (.goto 4, 3) := by decide +kernel
theorem dJ1_canEncode_9a6ad_15 : decode cJ1_canEncode_9a6ad 15 = .ok (.iconst 0, 1) := by decide +kernel
theorem dJ1_canEncode_9a6ad_16 : decode cJ1_canEncode_9a6ad 16 = .ok (.ireturn, 1) := by decide +kernel
theorem dJ1_indexOf_4cfef_0 : decode cJ1_indexOf_4cfef 0 = .ok (.iload_n 1, 1) := by decide +kernel
theorem dJ1_indexOf_4cfef_1 : decode cJ1_indexOf_4cfef 1 = .ok (.invokestatic 88, 3) := by decide +kernel
theorem dJ1_indexOf_4cfef_4 : decode cJ1_indexOf_4cfef 4 = .ok (.ifCond .ne 5, 3) := by decide +kernel
theorem dJ1_indexOf_4cfef_7 : decode cJ1_indexOf_4cfef 7 = .ok (.iconst (-1), 1) := by decide +kernel
theorem dJ1_indexOf_4cfef_8 : decode cJ1_indexOf_4cfef 8 = .ok (.ireturn, 1) := by decide +kernel
theorem dJ1_indexOf_4cfef_9 : decode cJ1_indexOf_4cfef 9 = .ok (.iload_n 2, 1) := by decide +kernel
theorem dJ1_indexOf_4cfef_10 : decode cJ1_indexOf_4cfef 10 = .ok (.iconst 0, 1) := by decide +kernel
theorem dJ1_indexOf_4cfef_11 : decode cJ1_indexOf_4cfef 11 = .ok (.invokestatic 92, 3) := by decide +kernel
theorem dJ1_indexOf_4cfef_14 : decode cJ1_indexOf_4cfef 14 = .ok (.istore_n 2, 1) := by decide +kernel
theorem dJ1_indexOf_4cfef_15 : decode cJ1_indexOf_4cfef 15 = .ok (.iload_n 3, 1) := by decide +kernel
theorem dJ1_indexOf_4cfef_16 : decode cJ1_indexOf_4cfef 16 = .ok (.aload_n 0, 1) := by decide +kernel
theorem dJ1_indexOf_4cfef_17 : decode cJ1_indexOf_4cfef 17 = .ok (.arraylength, 1) := by decide +kernel
theorem dJ1_indexOf_4cfef_18 : decode cJ1_indexOf_4cfef 18 = .ok (.invokestatic 38, 3) := by decide +kernel
theorem dJ1_indexOf_4cfef_21 : decode cJ1_indexOf_4cfef 21 = .ok (.istore_n 3, 1) := by decide +kernel
theorem dJ1_indexOf_4cfef_22 : decode cJ1_indexOf_4cfef 22 = .ok (.iload_n 2, 1) := by decide +kernel
theorem dJ1_indexOf_4cfef_23 : decode cJ1_indexOf_4cfef 23 = .ok (.iload_n 3, 1) := by decide +kernel
theorem dJ1_indexOf_4cfef_24 : decode cJ1_indexOf_4cfef 24 = .ok (.if_icmp .lt 5, 3) := by decide +kernel
theorem dJ1_indexOf_4cfef_27 : decode cJ1_indexOf_4cfef 27 = .ok (.iconst (-1), 1) := by decide +kernel
theorem dJ1_indexOf_4cfef_28 : decode cJ1_indexOf_4cfef 28 = .ok (.ireturn, 1) := by decide +kernel
theorem dJ1_indexOf_4cfef_29 : decode cJ1_indexOf_4cfef 29 = .ok (.aload_n 0, 1) := by decide +kernel
theorem dJ1_indexOf_4cfef_30 : decode cJ1_indexOf_4cfef 30 = .ok (.iload_n 1, 1) := by decide +kernel
theorem dJ1_indexOf_4cfef_31 : decode cJ1_indexOf_4cfef 31 = .ok (.iload_n 2, 1) := by decide +kernel
theorem dJ1_indexOf_4cfef_32 : decode cJ1_indexOf_4cfef 32 = .ok (.iload_n 3, 1) := by decide +kernel
theorem dJ1_indexOf_4cfef_33 : decode cJ1_indexOf_4cfef 33 = .ok (.invokestatic 95, 3) := by decide +kernel
theorem dJ1_indexOf_4cfef_36 : decode cJ1_indexOf_4cfef 36 = .ok (.ireturn, 1) := by decide +kernel
theorem dJ1_indexOfChar_4cfef_0 : decode cJ1_indexOfChar_4cfef 0 = .ok (.iload_n 1, 1) := by decide +kernel
theorem dJ1_indexOfChar_4cfef_1 : decode cJ1_indexOfChar_4cfef 1 = .ok (.i2b, 1) := by decide +kernel
theorem dJ1_indexOfChar_4cfef_2 : decode cJ1_indexOfChar_4cfef 2 = .ok (.istore 4, 2) := by decide +kernel
theorem dJ1_indexOfChar_4cfef_4 : decode cJ1_indexOfChar_4cfef 4 = .ok (.iload_n 2, 1) := by decide +kernel
theorem dJ1_indexOfChar_4cfef_5 : decode cJ1_indexOfChar_4cfef 5 = .ok (.istore 5, 2) := by decide +kernel
theorem dJ1_indexOfChar_4cfef_7 : decode cJ1_indexOfChar_4cfef 7 = .ok (.iload 5, 2) := by decide +kernel
theorem dJ1_indexOfChar_4cfef_9 : decode cJ1_indexOfChar_4cfef 9 = .ok (.iload_n 3, 1) := by decide +kernel
theorem dJ1_indexOfChar_4cfef_10 : decode cJ1_indexOfChar_4cfef 10 = .ok (.if_icmp .ge 21, 3) := by decide +kernel
theorem dJ1_indexOfChar_4cfef_13 : decode cJ1_indexOfChar_4cfef 13 = .ok (.aload_n 0, 1) := by decide +kernel
theorem dJ1_indexOfChar_4cfef_14 : decode cJ1_indexOfChar_4cfef 14 = .ok (.iload 5, 2) := by decide +kernel
theorem dJ1_indexOfChar_4cfef_16 : decode cJ1_indexOfChar_4cfef 16 = .ok (.baload, 1) := by decide +kernel
theorem dJ1_indexOfChar_4cfef_17 : decode cJ1_indexOfChar_4cfef 17 = .ok (.iload 4, 2) := by decide +kernel
theorem dJ1_indexOfChar_4cfef_19 : decode cJ1_indexOfChar_4cfef 19 = .ok (.if_icmp .ne 6, 3) := by decide +kernel
theorem dJ1_indexOfChar_4cfef_22 : decode cJ1_indexOfChar_4cfef 22 = .ok (.iload 5, 2) := by decide +kernel
theorem dJ1_indexOfChar_4cfef_24 : decode cJ1_indexOfChar_4cfef 24 = .ok (.ireturn, 1) := by decide +kernel
theorem dJ1_indexOfChar_4cfef_25 : decode cJ1_indexOfChar_4cfef 25 = .ok (.iinc 5 1, 3) := by decide +kernel
theorem dJ1_indexOfChar_4cfef_28 : decode cJ1_indexOfChar_4cfef 28 = .ok (.goto (-21), 3) := by decide +kernel
theorem dJ1_indexOfChar_4cfef_31 : decode cJ1_indexOfChar_4cfef 31 = .ok (.iconst (-1), 1) := by decide +kernel
theorem dJ1_indexOfChar_4cfef_32 : decode cJ1_indexOfChar_4cfef 32 = .ok (.ireturn, 1) := by decide +kernel
theorem dJ9_max_7cf53_0 : decode cJ9_max_7cf53 0 = .ok (.iload_n 0, 1) := by decide +kernel
theorem dJ9_max_7cf53_1 : decode cJ9_max_7cf53 1 = .ok (.iload_n 1, 1) := by decide +kernel
theorem dJ9_max_7cf53_2 : decode cJ9_max_7cf53 2 = .ok (.if_icmp .lt 7, 3) := by decide +kernel
theorem dJ9_max_7cf53_5 : decode cJ9_max_7cf53 5 = .ok (.iload_n 0, 1) := by decide +kernel
theorem dJ9_max_7cf53_6 : decode cJ9_max_7cf53 6 = .ok (.goto 4, 3) := by decide +kernel
theorem dJ9_max_7cf53_9 : decode cJ9_max_7cf53 9 = .ok (.iload_n 1, 1) := by decide +kernel
theorem dJ9_max_7cf53_10 : decode cJ9_max_7cf53 10 = .ok (.ireturn, 1) := by decide +kernel
theorem dJ9_min_7cf53_0 : decode cJ9_min_7cf53 0 = .ok (.iload_n 0, 1) := by decide +kernel
theorem dJ9_min_7cf53_1 : decode cJ9_min_7cf53 1 = .ok (.iload_n 1, 1) := by decide +kernel
theorem dJ9_min_7cf53_2 : decode cJ9_min_7cf53 2 = .ok (.if_icmp .gt 7, 3) := by decide +kernel
theorem dJ9_min_7cf53_5 : decode cJ9_min_7cf53 5 = .ok (.iload_n 0, 1) := by decide +kernel
theorem dJ9_min_7cf53_6 : decode cJ9_min_7cf53 6 = .ok (.goto 4, 3) := by decide +kernel
theorem dJ9_min_7cf53_9 : decode cJ9_min_7cf53 9 = .ok (.iload_n 1, 1) := by decide +kernel
theorem dJ9_min_7cf53_10 : decode cJ9_min_7cf53 10 = .ok (.ireturn, 1) := by decide +kernel
