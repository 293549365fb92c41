theorem dX3_init_0 : decode cX3_init 0 = .ok (.aload_n 0, 1) := by decide +kernel
theorem dX3_init_1 : decode cX3_init 1 = .ok (.invokespecial 1, 3) := by decide +kernel
theorem dX3_init_4 : decode cX3_init 4 = .ok (.aload_n 0, 1) := by decide +kernel
theorem dX3_init_5 : decode cX3_init 5 = .ok (.bipush 7, 2) := by decide +kernel
theorem dX3_init_7 : decode cX3_init 7 = .ok (.newarray .int, 2) := by decide +kernel
theorem dX3_init_9 : decode cX3_init 9 = .ok (.putfield 7, 3) := by decide +kernel
theorem dX3_init_12 : decode cX3_init 12 = .ok (.aload_n 0, 1) := by decide +kernel
theorem dX3_init_13 : decode cX3_init 13 = .ok (.bipush 51, 2) := by decide +kernel
theorem dX3_init_15 : decode cX3_init 15 = .ok (.newarray .int, 2) := by decide +kernel
theorem dX3_init_17 : decode cX3_init 17 = .ok (.putfield 13, 3) := by decide +kernel
theorem dX3_init_20 : decode cX3_init 20 = .ok (.aload_n 0, 1) := by decide +kernel
theorem dX3_init_21 : decode cX3_init 21 = .ok (.bipush 51, 2) := by decide +kernel
theorem dX3_init_23 : decode cX3_init 23 = .ok (.newarray .int, 2) := by decide +kernel
theorem dX3_init_25 : decode cX3_init 25 = .ok (.putfield 16, 3) := by decide +kernel
theorem dX3_init_28 : decode cX3_init 28 = .ok (.aload_n 0, 1) := by decide +kernel
theorem dX3_init_29 : decode cX3_init 29 = .ok (.bipush 51, 2) := by decide +kernel
theorem dX3_init_31 : decode cX3_init 31 = .ok (.newarray .int, 2) := by decide +kernel
theorem dX3_init_33 : decode cX3_init 33 = .ok (.putfield 19, 3) := by decide +kernel
theorem dX3_init_36 : decode cX3_init 36 = .ok (.aload_n 0, 1) := by decide +kernel
theorem dX3_init_37 : decode cX3_init 37 = .ok (.bipush 51, 2) := by decide +kernel
theorem dX3_init_39 : decode cX3_init 39 = .ok (.newarray .int, 2) := by decide +kernel
theorem dX3_init_41 : decode cX3_init 41 = .ok (.putfield 22, 3) := by decide +kernel
theorem dX3_init_44 : decode cX3_init 44 = .ok (.aload_n 0, 1) := by decide +kernel
theorem dX3_init_45 : decode cX3_init 45 = .ok (.bipush (-9), 2) := by decide +kernel
theorem dX3_init_47 : decode cX3_init 47 = .ok (.putfield 25, 3) := by decide +kernel
theorem dX3_init_50 : decode cX3_init 50 = .ok (.aload_n 0, 1) := by decide +kernel
theorem dX3_init_51 : decode cX3_init 51 = .ok (.bipush (-9), 2) := by decide +kernel
theorem dX3_init_53 : decode cX3_init 53 = .ok (.putfield 29, 3) := by decide +kernel
theorem dX3_init_56 : decode cX3_init 56 = .ok (.aload_n 0, 1) := by decide +kernel
theorem dX3_init_57 : decode cX3_init 57 = .ok (.bipush 64, 2) := by decide +kernel
theorem dX3_init_59 : decode cX3_init 59 = .ok (.newarray .int, 2) := by decide +kernel
theorem dX3_init_61 : decode cX3_init 61 = .ok (.putfield 32, 3) := by decide +kernel
theorem dX3_init_64 : decode cX3_init 64 = .ok (.aload_n 0, 1) := by decide +kernel
theorem dX3_init_65 : decode cX3_init 65 = .ok (.iconst 4, 1) := by decide +kernel
theorem dX3_init_66 : decode cX3_init 66 = .ok (.newarray .int, 2) := by decide +kernel
theorem dX3_init_68 : decode cX3_init 68 = .ok (.putfield 35, 3) := by decide +kernel
theorem dX3_init_71 : decode cX3_init 71 = .ok (.aload_n 0, 1) := by decide +kernel
theorem dX3_init_72 : decode cX3_init 72 = .ok (.bipush 7, 2) := by decide +kernel
theorem dX3_init_74 : decode cX3_init 74 = .ok (.newarray .int, 2) := by decide +kernel
theorem dX3_init_76 : decode cX3_init 76 = .ok (.putfield 38, 3) := by decide +kernel
theorem dX3_init_79 : decode cX3_init 79 = .ok (.aload_n 0, 1) := by decide +kernel
theorem dX3_init_80 : decode cX3_init 80 = .ok (.bipush 51, 2) := by decide +kernel
theorem dX3_init_82 : decode cX3_init 82 = .ok (.newarray .int, 2) := by decide +kernel
theorem dX3_init_84 : decode cX3_init 84 = .ok (.putfield 41, 3) := by decide +kernel
theorem dX3_init_87 : decode cX3_init 87 = .ok (.aload_n 0, 1) := by decide +kernel
theorem dX3_init_88 : decode cX3_init 88 = .ok (.bipush 41, 2) := by decide +kernel
theorem dX3_init_90 : decode cX3_init 90 = .ok (.newarray .int, 2) := by decide +kernel
theorem dX3_init_92 : decode cX3_init 92 = .ok (.putfield 44, 3) := by decide +kernel
theorem dX3_init_95 : decode cX3_init 95 = .ok (.aload_n 0, 1) := by decide +kernel
theorem dX3_init_96 : decode cX3_init 96 = .ok (.bipush 6, 2) := by decide +kernel
theorem dX3_init_98 : decode cX3_init 98 = .ok (.newarray .int, 2) := by decide +kernel
theorem dX3_init_100 : decode cX3_init 100 = .ok (.putfield 47, 3) := by decide +kernel
theorem dX3_init_103 : decode cX3_init 103 = .ok (.aload_n 0, 1) := by decide +kernel
theorem dX3_init_104 : decode cX3_init 104 = .ok (.bipush 6, 2) := by decide +kernel
theorem dX3_init_106 : decode cX3_init 106 = .ok (.newarray .int, 2) := by decide +kernel
theorem dX3_init_108 : decode cX3_init 108 = .ok (.putfield 50, 3) := by decide +kernel
theorem dX3_init_111 : decode cX3_init 111 = .ok (.aload_n 0, 1) := by decide +kernel
theorem dX3_init_112 : decode cX3_init 112 = .ok (.bipush 6, 2) := by decide +kernel
theorem dX3_init_114 : decode cX3_init 114 = .ok (.newarray .int, 2) := by decide +kernel
theorem dX3_init_116 : decode cX3_init 116 = .ok (.putfield 53, 3) := by decide +kernel
theorem dX3_init_119 : decode cX3_init 119 = .ok (.return_, 1) := by decide +kernel
theorem dX3_refuse_0 : decode cX3_refuse 0 = .ok (.aload_n 0, 1) := by decide +kernel
theorem dX3_refuse_1 : decode cX3_refuse 1 = .ok (.getfield 7, 3) := by decide +kernel
theorem dX3_refuse_4 : decode cX3_refuse 4 = .ok (.iload_n 1, 1) := by decide +kernel
theorem dX3_refuse_5 : decode cX3_refuse 5 = .ok (.ineg, 1) := by decide +kernel
theorem dX3_refuse_6 : decode cX3_refuse 6 = .ok (.dup2, 1) := by decide +kernel
theorem dX3_refuse_7 : decode cX3_refuse 7 = .ok (.iaload, 1) := by decide +kernel
theorem dX3_refuse_8 : decode cX3_refuse 8 = .ok (.iconst 1, 1) := by decide +kernel
theorem dX3_refuse_9 : decode cX3_refuse 9 = .ok (.iadd, 1) := by decide +kernel
theorem dX3_refuse_10 : decode cX3_refuse 10 = .ok (.iastore, 1) := by decide +kernel
theorem dX3_refuse_11 : decode cX3_refuse 11 = .ok (.iload_n 1, 1) := by decide +kernel
theorem dX3_refuse_12 : decode cX3_refuse 12 = .ok (.ireturn, 1) := by decide +kernel
theorem dX3_isIn_0 : decode cX3_isIn 0 = .ok (.iload_n 0, 1) := by decide +kernel
theorem dX3_isIn_1 : decode cX3_isIn 1 = .ok (.ifCond .lt 12, 3) := by decide +kernel
theorem dX3_isIn_4 : decode cX3_isIn 4 = .ok (.iload_n 0, 1) := by decide +kernel
theorem dX3_isIn_5 : decode cX3_isIn 5 = .ok (.iload_n 1, 1) := by decide +kernel
theorem dX3_isIn_6 : decode cX3_isIn 6 = .ok (.if_icmp .ge 7, 3) := by decide +kernel
theorem dX3_isIn_9 : decode cX3_isIn 9 = .ok (.iconst 1, 1) := by decide +kernel
theorem dX3_isIn_10 : decode cX3_isIn 10 = .ok (.goto 4, 3) := by decide +kernel
theorem dX3_isIn_13 : decode cX3_isIn 13 = .ok (.iconst 0, 1) := by decide +kernel
theorem dX3_isIn_14 : decode cX3_isIn 14 = .ok (.ireturn, 1) := by decide +kernel
theorem dX3_within_0 : decode cX3_within 0 = .ok (.iload_n 0, 1) := by decide +kernel
theorem dX3_within_1 : decode cX3_within 1 = .ok (.iload_n 1, 1) := by decide +kernel
theorem dX3_within_2 : decode cX3_within 2 = .ok (.if_icmp .ge 8, 3) := by decide +kernel
theorem dX3_within_5 : decode cX3_within 5 = .ok (.bipush (-4), 2) := by decide +kernel
theorem dX3_within_7 : decode cX3_within 7 = .ok (.goto 14, 3) := by decide +kernel
theorem dX3_within_10 : decode cX3_within 10 = .ok (.iload_n 0, 1) := by decide +kernel
theorem dX3_within_11 : decode cX3_within 11 = .ok (.iload_n 2, 1) := by decide +kernel
theorem dX3_within_12 : decode cX3_within 12 = .ok (.if_icmp .le 8, 3) := by decide +kernel
theorem dX3_within_15 : decode cX3_within 15 = .ok (.bipush (-6), 2) := by decide +kernel
theorem dX3_within_17 : decode cX3_within 17 = .ok (.goto 4, 3) := by decide +kernel
theorem dX3_within_20 : decode cX3_within 20 = .ok (.iconst 0, 1) := by decide +kernel
theorem dX3_within_21 : decode cX3_within 21 = .ok (.ireturn, 1) := by decide +kernel
theorem dX3_lays_0 : decode cX3_lays 0 = .ok (.iconst 0, 1) := by decide +kernel
theorem dX3_lays_1 : decode cX3_lays 1 = .ok (.istore_n 2, 1) := by decide +kernel
theorem dX3_lays_2 : decode cX3_lays 2 = .ok (.iload_n 2, 1) := by decide +kernel
theorem dX3_lays_3 : decode cX3_lays 3 = .ok (.bipush 51, 2) := by decide +kernel
theorem dX3_lays_5 : decode cX3_lays 5 = .ok (.if_icmp .ge 15, 3) := by decide +kernel
theorem dX3_lays_8 : decode cX3_lays 8 = .ok (.aload_n 1, 1) := by decide +kernel
theorem dX3_lays_9 : decode cX3_lays 9 = .ok (.iload_n 2, 1) := by decide +kernel
theorem dX3_lays_10 : decode cX3_lays 10 = .ok (.aload_n 0, 1) := by decide +kernel
theorem dX3_lays_11 : decode cX3_lays 11 = .ok (.iload_n 2, 1) := by decide +kernel
theorem dX3_lays_12 : decode cX3_lays 12 = .ok (.iaload, 1) := by decide +kernel
theorem dX3_lays_13 : decode cX3_lays 13 = .ok (.iastore, 1) := by decide +kernel
theorem dX3_lays_14 : decode cX3_lays 14 = .ok (.iinc 2 1, 3) := by decide +kernel
theorem dX3_lays_17 : decode cX3_lays 17 = .ok (.goto (-15), 3) := by decide +kernel
theorem dX3_lays_20 : decode cX3_lays 20 = .ok (.return_, 1) := by decide +kernel
theorem dX3_begins_0 : decode cX3_begins 0 = .ok (.aload_n 0, 1) := by decide +kernel
theorem dX3_begins_1 : decode cX3_begins 1 = .ok (.getfield 13, 3) := by decide +kernel
theorem dX3_begins_4 : decode cX3_begins 4 = .ok (.aload_n 0, 1) := by decide +kernel
theorem dX3_begins_5 : decode cX3_begins 5 = .ok (.getfield 22, 3) := by decide +kernel
theorem dX3_begins_8 : decode cX3_begins 8 = .ok (.invokestatic 56, 3) := by decide +kernel
theorem dX3_begins_11 : decode cX3_begins 11 = .ok (.return_, 1) := by decide +kernel
theorem dX3_ends_0 : decode cX3_ends 0 = .ok (.aload_n 0, 1) := by decide +kernel
theorem dX3_ends_1 : decode cX3_ends 1 = .ok (.getfield 22, 3) := by decide +kernel
theorem dX3_ends_4 : decode cX3_ends 4 = .ok (.aload_n 0, 1) := by decide +kernel
theorem dX3_ends_5 : decode cX3_ends 5 = .ok (.getfield 13, 3) := by decide +kernel
theorem dX3_ends_8 : decode cX3_ends 8 = .ok (.invokestatic 56, 3) := by decide +kernel
theorem dX3_ends_11 : decode cX3_ends 11 = .ok (.return_, 1) := by decide +kernel
theorem dX3_isStreet_0 : decode cX3_isStreet 0 = .ok (.iload_n 1, 1) := by decide +kernel
theorem dX3_isStreet_1 : decode cX3_isStreet 1 = .ok (.aload_n 0, 1) := by decide +kernel
theorem dX3_isStreet_2 : decode cX3_isStreet 2 = .ok (.getfield 13, 3) := by decide +kernel
theorem dX3_isStreet_5 : decode cX3_isStreet 5 = .ok (.iconst 0, 1) := by decide +kernel
theorem dX3_isStreet_6 : decode cX3_isStreet 6 = .ok (.iaload, 1) := by decide +kernel
theorem dX3_isStreet_7 : decode cX3_isStreet 7 = .ok (.invokestatic 60, 3) := by decide +kernel
theorem dX3_isStreet_10 : decode cX3_isStreet 10 = .ok (.ireturn, 1) := by decide +kernel
theorem dX3_get_0 : decode cX3_get 0 = .ok (.aload_n 0, 1) := by decide +kernel
theorem dX3_get_1 : decode cX3_get 1 = .ok (.getfield 13, 3) := by decide +kernel
theorem dX3_get_4 : decode cX3_get 4 = .ok (.iconst 2, 1) := by decide +kernel
theorem dX3_get_5 : decode cX3_get 5 = .ok (.bipush 7, 2) := by decide +kernel
theorem dX3_get_7 : decode cX3_get 7 = .ok (.iload_n 1, 1) := by decide +kernel
theorem dX3_get_8 : decode cX3_get 8 = .ok (.imul, 1) := by decide +kernel
theorem dX3_get_9 : decode cX3_get 9 = .ok (.iadd, 1) := by decide +kernel
theorem dX3_get_10 : decode cX3_get 10 = .ok (.iload_n 2, 1) := by decide +kernel
theorem dX3_get_11 : decode cX3_get 11 = .ok (.iadd, 1) := by decide +kernel
theorem dX3_get_12 : decode cX3_get 12 = .ok (.iaload, 1) := by decide +kernel
theorem dX3_get_13 : decode cX3_get 13 = .ok (.ireturn, 1) := by decide +kernel
theorem dX3_puts_0 : decode cX3_puts 0 = .ok (.aload_n 0, 1) := by decide +kernel
theorem dX3_puts_1 : decode cX3_puts 1 = .ok (.getfield 13, 3) := by decide +kernel
theorem dX3_puts_4 : decode cX3_puts 4 = .ok (.iconst 2, 1) := by decide +kernel
theorem dX3_puts_5 : decode cX3_puts 5 = .ok (.bipush 7, 2) := by decide +kernel
theorem dX3_puts_7 : decode cX3_puts 7 = .ok (.iload_n 1, 1) := by decide +kernel
theorem dX3_puts_8 : decode cX3_puts 8 = .ok (.imul, 1) := by decide +kernel
theorem dX3_puts_9 : decode cX3_puts 9 = .ok (.iadd, 1) := by decide +kernel
theorem dX3_puts_10 : decode cX3_puts 10 = .ok (.iload_n 2, 1) := by decide +kernel
theorem dX3_puts_11 : decode cX3_puts 11 = .ok (.iadd, 1) := by decide +kernel
theorem dX3_puts_12 : decode cX3_puts 12 = .ok (.iload_n 3, 1) := by decide +kernel
theorem dX3_puts_13 : decode cX3_puts 13 = .ok (.iastore, 1) := by decide +kernel
theorem dX3_puts_14 : decode cX3_puts 14 = .ok (.return_, 1) := by decide +kernel
theorem dX3_letter_0 : decode cX3_letter 0 = .ok (.iload_n 1, 1) := by decide +kernel
theorem dX3_letter_1 : decode cX3_letter 1 = .ok (.iconst 0, 1) := by decide +kernel
theorem dX3_letter_2 : decode cX3_letter 2 = .ok (.sipush 255, 3) := by decide +kernel
theorem dX3_letter_5 : decode cX3_letter 5 = .ok (.invokestatic 64, 3) := by decide +kernel
theorem dX3_letter_8 : decode cX3_letter 8 = .ok (.istore_n 2, 1) := by decide +kernel
theorem dX3_letter_9 : decode cX3_letter 9 = .ok (.iload_n 2, 1) := by decide +kernel
theorem dX3_letter_10 : decode cX3_letter 10 = .ok (.ifCond .ne 15, 3) := by decide +kernel
theorem dX3_letter_13 : decode cX3_letter 13 = .ok (.aload_n 0, 1) := by decide +kernel
theorem dX3_letter_14 : decode cX3_letter 14 = .ok (.getfield 68, 3) := by decide +kernel
theorem dX3_letter_17 : decode cX3_letter 17 = .ok (.bipush 64, 2) := by decide +kernel
theorem dX3_letter_19 : decode cX3_letter 19 = .ok (.if_icmp .ne 6, 3) := by decide +kernel
theorem dX3_letter_22 : decode cX3_letter 22 = .ok (.bipush (-6), 2) := by decide +kernel
theorem dX3_letter_24 : decode cX3_letter 24 = .ok (.istore_n 2, 1) := by decide +kernel
theorem dX3_letter_25 : decode cX3_letter 25 = .ok (.iload_n 2, 1) := by decide +kernel
theorem dX3_letter_26 : decode cX3_letter 26 = .ok (.ifCond .eq 9, 3) := by decide +kernel
theorem dX3_letter_29 : decode cX3_letter 29 = .ok (.aload_n 0, 1) := by decide +kernel
theorem dX3_letter_30 : decode cX3_letter 30 = .ok (.iload_n 2, 1) := by decide +kernel
theorem dX3_letter_31 : decode cX3_letter 31 = .ok (.invokevirtual 71, 3) := by decide +kernel
theorem dX3_letter_34 : decode cX3_letter 34 = .ok (.ireturn, 1) := by decide +kernel
theorem dX3_letter_35 : decode cX3_letter 35 = .ok (.aload_n 0, 1) := by decide +kernel
theorem dX3_letter_36 : decode cX3_letter 36 = .ok (.getfield 32, 3) := by decide +kernel
theorem dX3_letter_39 : decode cX3_letter 39 = .ok (.aload_n 0, 1) := by decide +kernel
theorem dX3_letter_40 : decode cX3_letter 40 = .ok (.getfield 68, 3) := by decide +kernel
theorem dX3_letter_43 : decode cX3_letter 43 = .ok (.iload_n 1, 1) := by decide +kernel
theorem dX3_letter_44 : decode cX3_letter 44 = .ok (.iastore, 1) := by decide +kernel
theorem dX3_letter_45 : decode cX3_letter 45 = .ok (.aload_n 0, 1) := by decide +kernel
theorem dX3_letter_46 : decode cX3_letter 46 = .ok (.dup, 1) := by decide +kernel
theorem dX3_letter_47 : decode cX3_letter 47 = .ok (.getfield 68, 3) := by decide +kernel
theorem dX3_letter_50 : decode cX3_letter 50 = .ok (.iconst 1, 1) := by decide +kernel
theorem dX3_letter_51 : decode cX3_letter 51 = .ok (.iadd, 1) := by decide +kernel
theorem dX3_letter_52 : decode cX3_letter 52 = .ok (.putfield 68, 3) := by decide +kernel
theorem dX3_letter_55 : decode cX3_letter 55 = .ok (.aload_n 0, 1) := by decide +kernel
theorem dX3_letter_56 : decode cX3_letter 56 = .ok (.getfield 68, 3) := by decide +kernel
theorem dX3_letter_59 : decode cX3_letter 59 = .ok (.ireturn, 1) := by decide +kernel
theorem dX3_sign_0 : decode cX3_sign 0 = .ok (.aload_n 0, 1) := by decide +kernel
theorem dX3_sign_1 : decode cX3_sign 1 = .ok (.getfield 75, 3) := by decide +kernel
theorem dX3_sign_4 : decode cX3_sign 4 = .ok (.aload_n 0, 1) := by decide +kernel
theorem dX3_sign_5 : decode cX3_sign 5 = .ok (.getfield 68, 3) := by decide +kernel
theorem dX3_sign_8 : decode cX3_sign 8 = .ok (.if_icmp .ge 15, 3) := by decide +kernel
theorem dX3_sign_11 : decode cX3_sign 11 = .ok (.aload_n 0, 1) := by decide +kernel
theorem dX3_sign_12 : decode cX3_sign 12 = .ok (.getfield 32, 3) := by decide +kernel
theorem dX3_sign_15 : decode cX3_sign 15 = .ok (.aload_n 0, 1) := by decide +kernel
theorem dX3_sign_16 : decode cX3_sign 16 = .ok (.getfield 75, 3) := by decide +kernel
theorem dX3_sign_19 : decode cX3_sign 19 = .ok (.iaload, 1) := by decide +kernel
theorem dX3_sign_20 : decode cX3_sign 20 = .ok (.goto 4, 3) := by decide +kernel
theorem dX3_sign_23 : decode cX3_sign 23 = .ok (.iconst (-1), 1) := by decide +kernel
theorem dX3_sign_24 : decode cX3_sign 24 = .ok (.ireturn, 1) := by decide +kernel
theorem dX3_takes_0 : decode cX3_takes 0 = .ok (.aload_n 0, 1) := by decide +kernel
theorem dX3_takes_1 : decode cX3_takes 1 = .ok (.invokevirtual 78, 3) := by decide +kernel
theorem dX3_takes_4 : decode cX3_takes 4 = .ok (.iload_n 1, 1) := by decide +kernel
theorem dX3_takes_5 : decode cX3_takes 5 = .ok (.if_icmp .eq 5, 3) := by decide +kernel
theorem dX3_takes_8 : decode cX3_takes 8 = .ok (.iconst 0, 1) := by decide +kernel
theorem dX3_takes_9 : decode cX3_takes 9 = .ok (.ireturn, 1) := by decide +kernel
theorem dX3_takes_10 : decode cX3_takes 10 = .ok (.aload_n 0, 1) := by decide +kernel
theorem dX3_takes_11 : decode cX3_takes 11 = .ok (.dup, 1) := by decide +kernel
theorem dX3_takes_12 : decode cX3_takes 12 = .ok (.getfield 75, 3) := by decide +kernel
theorem dX3_takes_15 : decode cX3_takes 15 = .ok (.iconst 1, 1) := by decide +kernel
theorem dX3_takes_16 : decode cX3_takes 16 = .ok (.iadd, 1) := by decide +kernel
theorem dX3_takes_17 : decode cX3_takes 17 = .ok (.putfield 75, 3) := by decide +kernel
theorem dX3_takes_20 : decode cX3_takes 20 = .ok (.iconst 1, 1) := by decide +kernel
theorem dX3_takes_21 : decode cX3_takes 21 = .ok (.ireturn, 1) := by decide +kernel
theorem dX3_readsNumber_0 : decode cX3_readsNumber 0 = .ok (.aload_n 0, 1) := by decide +kernel
theorem dX3_readsNumber_1 : decode cX3_readsNumber 1 = .ok (.getfield 35, 3) := by decide +kernel
theorem dX3_readsNumber_4 : decode cX3_readsNumber 4 = .ok (.iload_n 1, 1) := by decide +kernel
theorem dX3_readsNumber_5 : decode cX3_readsNumber 5 = .ok (.iconst 0, 1) := by decide +kernel
theorem dX3_readsNumber_6 : decode cX3_readsNumber 6 = .ok (.iastore, 1) := by decide +kernel
theorem dX3_readsNumber_7 : decode cX3_readsNumber 7 = .ok (.iconst 0, 1) := by decide +kernel
theorem dX3_readsNumber_8 : decode cX3_readsNumber 8 = .ok (.istore_n 3, 1) := by decide +kernel
theorem dX3_readsNumber_9 : decode cX3_readsNumber 9 = .ok (.iload_n 3, 1) := by decide +kernel
theorem dX3_readsNumber_10 : decode cX3_readsNumber 10 = .ok (.iload_n 2, 1) := by decide +kernel
theorem dX3_readsNumber_11 : decode cX3_readsNumber 11 = .ok (.if_icmp .ge 57, 3) := by decide +kernel
theorem dX3_readsNumber_14 : decode cX3_readsNumber 14 = .ok (.aload_n 0, 1) := by decide +kernel
theorem dX3_readsNumber_15 : decode cX3_readsNumber 15 = .ok (.invokevirtual 78, 3) := by decide +kernel
theorem dX3_readsNumber_18 : decode cX3_readsNumber 18 = .ok (.bipush 48, 2) := by decide +kernel
theorem dX3_readsNumber_20 : decode cX3_readsNumber 20 = .ok (.isub, 1) := by decide +kernel
theorem dX3_readsNumber_21 : decode cX3_readsNumber 21 = .ok (.bipush 10, 2) := by decide +kernel
theorem dX3_readsNumber_23 : decode cX3_readsNumber 23 = .ok (.invokestatic 60, 3) := by decide +kernel
theorem dX3_readsNumber_26 : decode cX3_readsNumber 26 = .ok (.ifCond .eq 42, 3) := by decide +kernel
theorem dX3_readsNumber_29 : decode cX3_readsNumber 29 = .ok (.aload_n 0, 1) := by decide +kernel
theorem dX3_readsNumber_30 : decode cX3_readsNumber 30 = .ok (.getfield 35, 3) := by decide +kernel
theorem dX3_readsNumber_33 : decode cX3_readsNumber 33 = .ok (.iload_n 1, 1) := by decide +kernel
theorem dX3_readsNumber_34 : decode cX3_readsNumber 34 = .ok (.bipush 10, 2) := by decide +kernel
theorem dX3_readsNumber_36 : decode cX3_readsNumber 36 = .ok (.aload_n 0, 1) := by decide +kernel
theorem dX3_readsNumber_37 : decode cX3_readsNumber 37 = .ok (.getfield 35, 3) := by decide +kernel
theorem dX3_readsNumber_40 : decode cX3_readsNumber 40 = .ok (.iload_n 1, 1) := by decide +kernel
theorem dX3_readsNumber_41 : decode cX3_readsNumber 41 = .ok (.iaload, 1) := by decide +kernel
theorem dX3_readsNumber_42 : decode cX3_readsNumber 42 = .ok (.imul, 1) := by decide +kernel
theorem dX3_readsNumber_43 : decode cX3_readsNumber 43 = .ok (.aload_n 0, 1) := by decide +kernel
theorem dX3_readsNumber_44 : decode cX3_readsNumber 44 = .ok (.invokevirtual 78, 3) := by decide +kernel
theorem dX3_readsNumber_47 : decode cX3_readsNumber 47 = .ok (.iadd, 1) := by decide +kernel
theorem dX3_readsNumber_48 : decode cX3_readsNumber 48 = .ok (.bipush 48, 2) := by decide +kernel
theorem dX3_readsNumber_50 : decode cX3_readsNumber 50 = .ok (.isub, 1) := by decide +kernel
theorem dX3_readsNumber_51 : decode cX3_readsNumber 51 = .ok (.iastore, 1) := by decide +kernel
theorem dX3_readsNumber_52 : decode cX3_readsNumber 52 = .ok (.aload_n 0, 1) := by decide +kernel
theorem dX3_readsNumber_53 : decode cX3_readsNumber 53 = .ok (.dup, 1) := by decide +kernel
theorem dX3_readsNumber_54 : decode cX3_readsNumber 54 = .ok (.getfield 75, 3) := by decide +kernel
theorem dX3_readsNumber_57 : decode cX3_readsNumber 57 = .ok (.iconst 1, 1) := by decide +kernel
theorem dX3_readsNumber_58 : decode cX3_readsNumber 58 = .ok (.iadd, 1) := by decide +kernel
theorem dX3_readsNumber_59 : decode cX3_readsNumber 59 = .ok (.putfield 75, 3) := by decide +kernel
theorem dX3_readsNumber_62 : decode cX3_readsNumber 62 = .ok (.iinc 3 1, 3) := by decide +kernel
theorem dX3_readsNumber_65 : decode cX3_readsNumber 65 = .ok (.goto (-56), 3) := by decide +kernel
theorem dX3_readsNumber_68 : decode cX3_readsNumber 68 = .ok (.iload_n 3, 1) := by decide +kernel
theorem dX3_readsNumber_69 : decode cX3_readsNumber 69 = .ok (.ifCond .le 7, 3) := by decide +kernel
theorem dX3_readsNumber_72 : decode cX3_readsNumber 72 = .ok (.iconst 1, 1) := by decide +kernel
theorem dX3_readsNumber_73 : decode cX3_readsNumber 73 = .ok (.goto 4, 3) := by decide +kernel
theorem dX3_readsNumber_76 : decode cX3_readsNumber 76 = .ok (.iconst 0, 1) := by decide +kernel
theorem dX3_readsNumber_77 : decode cX3_readsNumber 77 = .ok (.ireturn, 1) := by decide +kernel
theorem dX3_kindOf_0 : decode cX3_kindOf 0 = .ok (.iload_n 0, 1) := by decide +kernel
theorem dX3_kindOf_1 : decode cX3_kindOf 1 = .ok (.lookupswitch 71 #[(99, 69), (100, 59), (108, 61), (109, 67), (116, 63), (119, 65)], 59) := by decide +kernel
theorem dX3_kindOf_60 : decode cX3_kindOf 60 = .ok (.iconst 0, 1) := by decide +kernel
theorem dX3_kindOf_61 : decode cX3_kindOf 61 = .ok (.ireturn, 1) := by decide +kernel
theorem dX3_kindOf_62 : decode cX3_kindOf 62 = .ok (.iconst 1, 1) := by decide +kernel
theorem dX3_kindOf_63 : decode cX3_kindOf 63 = .ok (.ireturn, 1) := by decide +kernel
theorem dX3_kindOf_64 : decode cX3_kindOf 64 = .ok (.iconst 2, 1) := by decide +kernel
theorem dX3_kindOf_65 : decode cX3_kindOf 65 = .ok (.ireturn, 1) := by decide +kernel
theorem dX3_kindOf_66 : decode cX3_kindOf 66 = .ok (.iconst 3, 1) := by decide +kernel
theorem dX3_kindOf_67 : decode cX3_kindOf 67 = .ok (.ireturn, 1) := by decide +kernel
theorem dX3_kindOf_68 : decode cX3_kindOf 68 = .ok (.iconst 4, 1) := by decide +kernel
theorem dX3_kindOf_69 : decode cX3_kindOf 69 = .ok (.ireturn, 1) := by decide +kernel
theorem dX3_kindOf_70 : decode cX3_kindOf 70 = .ok (.iconst 5, 1) := by decide +kernel
theorem dX3_kindOf_71 : decode cX3_kindOf 71 = .ok (.ireturn, 1) := by decide +kernel
theorem dX3_kindOf_72 : decode cX3_kindOf 72 = .ok (.bipush (-9), 2) := by decide +kernel
theorem dX3_kindOf_74 : decode cX3_kindOf 74 = .ok (.ireturn, 1) := by decide +kernel
theorem dX3_readsKind_0 : decode cX3_readsKind 0 = .ok (.aload_n 0, 1) := by decide +kernel
theorem dX3_readsKind_1 : decode cX3_readsKind 1 = .ok (.getfield 35, 3) := by decide +kernel
theorem dX3_readsKind_4 : decode cX3_readsKind 4 = .ok (.iconst 0, 1) := by decide +kernel
theorem dX3_readsKind_5 : decode cX3_readsKind 5 = .ok (.aload_n 0, 1) := by decide +kernel
theorem dX3_readsKind_6 : decode cX3_readsKind 6 = .ok (.invokevirtual 78, 3) := by decide +kernel
theorem dX3_readsKind_9 : decode cX3_readsKind 9 = .ok (.invokestatic 82, 3) := by decide +kernel
theorem dX3_readsKind_12 : decode cX3_readsKind 12 = .ok (.iastore, 1) := by decide +kernel
theorem dX3_readsKind_13 : decode cX3_readsKind 13 = .ok (.aload_n 0, 1) := by decide +kernel
theorem dX3_readsKind_14 : decode cX3_readsKind 14 = .ok (.getfield 35, 3) := by decide +kernel
theorem dX3_readsKind_17 : decode cX3_readsKind 17 = .ok (.iconst 0, 1) := by decide +kernel
theorem dX3_readsKind_18 : decode cX3_readsKind 18 = .ok (.iaload, 1) := by decide +kernel
theorem dX3_readsKind_19 : decode cX3_readsKind 19 = .ok (.ifCond .ge 5, 3) := by decide +kernel
theorem dX3_readsKind_22 : decode cX3_readsKind 22 = .ok (.iconst 0, 1) := by decide +kernel
theorem dX3_readsKind_23 : decode cX3_readsKind 23 = .ok (.ireturn, 1) := by decide +kernel
theorem dX3_readsKind_24 : decode cX3_readsKind 24 = .ok (.aload_n 0, 1) := by decide +kernel
theorem dX3_readsKind_25 : decode cX3_readsKind 25 = .ok (.dup, 1) := by decide +kernel
theorem dX3_readsKind_26 : decode cX3_readsKind 26 = .ok (.getfield 75, 3) := by decide +kernel
theorem dX3_readsKind_29 : decode cX3_readsKind 29 = .ok (.iconst 1, 1) := by decide +kernel
theorem dX3_readsKind_30 : decode cX3_readsKind 30 = .ok (.iadd, 1) := by decide +kernel
theorem dX3_readsKind_31 : decode cX3_readsKind 31 = .ok (.putfield 75, 3) := by decide +kernel
theorem dX3_readsKind_34 : decode cX3_readsKind 34 = .ok (.iconst 1, 1) := by decide +kernel
theorem dX3_readsKind_35 : decode cX3_readsKind 35 = .ok (.ireturn, 1) := by decide +kernel
theorem dX3_readsStatement_0 : decode cX3_readsStatement 0 = .ok (.aload_n 0, 1) := by decide +kernel
theorem dX3_readsStatement_1 : decode cX3_readsStatement 1 = .ok (.invokevirtual 78, 3) := by decide +kernel
theorem dX3_readsStatement_4 : decode cX3_readsStatement 4 = .ok (.istore_n 1, 1) := by decide +kernel
theorem dX3_readsStatement_5 : decode cX3_readsStatement 5 = .ok (.iconst 0, 1) := by decide +kernel
theorem dX3_readsStatement_6 : decode cX3_readsStatement 6 = .ok (.istore_n 2, 1) := by decide +kernel
theorem dX3_readsStatement_7 : decode cX3_readsStatement 7 = .ok (.aload_n 0, 1) := by decide +kernel
theorem dX3_readsStatement_8 : decode cX3_readsStatement 8 = .ok (.dup, 1) := by decide +kernel
theorem dX3_readsStatement_9 : decode cX3_readsStatement 9 = .ok (.getfield 75, 3) := by decide +kernel
theorem dX3_readsStatement_12 : decode cX3_readsStatement 12 = .ok (.iconst 1, 1) := by decide +kernel
theorem dX3_readsStatement_13 : decode cX3_readsStatement 13 = .ok (.iadd, 1) := by decide +kernel
theorem dX3_readsStatement_14 : decode cX3_readsStatement 14 = .ok (.putfield 75, 3) := by decide +kernel
theorem dX3_readsStatement_17 : decode cX3_readsStatement 17 = .ok (.iload_n 1, 1) := by decide +kernel
theorem dX3_readsStatement_18 : decode cX3_readsStatement 18 = .ok (.lookupswitch 140 #[(109, 77), (112, 104), (115, 34)], 34) := by decide +kernel
theorem dX3_readsStatement_52 : decode cX3_readsStatement 52 = .ok (.aload_n 0, 1) := by decide +kernel
theorem dX3_readsStatement_53 : decode cX3_readsStatement 53 = .ok (.invokevirtual 85, 3) := by decide +kernel
theorem dX3_readsStatement_56 : decode cX3_readsStatement 56 = .ok (.ifCond .eq 34, 3) := by decide +kernel
theorem dX3_readsStatement_59 : decode cX3_readsStatement 59 = .ok (.aload_n 0, 1) := by decide +kernel
theorem dX3_readsStatement_60 : decode cX3_readsStatement 60 = .ok (.iconst 1, 1) := by decide +kernel
theorem dX3_readsStatement_61 : decode cX3_readsStatement 61 = .ok (.iconst 1, 1) := by decide +kernel
theorem dX3_readsStatement_62 : decode cX3_readsStatement 62 = .ok (.invokevirtual 89, 3) := by decide +kernel
theorem dX3_readsStatement_65 : decode cX3_readsStatement 65 = .ok (.ifCond .eq 25, 3) := by decide +kernel
theorem dX3_readsStatement_68 : decode cX3_readsStatement 68 = .ok (.aload_n 0, 1) := by decide +kernel
theorem dX3_readsStatement_69 : decode cX3_readsStatement 69 = .ok (.iconst 2, 1) := by decide +kernel
theorem dX3_readsStatement_70 : decode cX3_readsStatement 70 = .ok (.iconst 1, 1) := by decide +kernel
theorem dX3_readsStatement_71 : decode cX3_readsStatement 71 = .ok (.invokevirtual 89, 3) := by decide +kernel
theorem dX3_readsStatement_74 : decode cX3_readsStatement 74 = .ok (.ifCond .eq 16, 3) := by decide +kernel
theorem dX3_readsStatement_77 : decode cX3_readsStatement 77 = .ok (.aload_n 0, 1) := by decide +kernel
theorem dX3_readsStatement_78 : decode cX3_readsStatement 78 = .ok (.iconst 3, 1) := by decide +kernel
theorem dX3_readsStatement_79 : decode cX3_readsStatement 79 = .ok (.iconst 1, 1) := by decide +kernel
theorem dX3_readsStatement_80 : decode cX3_readsStatement 80 = .ok (.invokevirtual 89, 3) := by decide +kernel
theorem dX3_readsStatement_83 : decode cX3_readsStatement 83 = .ok (.ifCond .eq 7, 3) := by decide +kernel
theorem dX3_readsStatement_86 : decode cX3_readsStatement 86 = .ok (.iconst 1, 1) := by decide +kernel
theorem dX3_readsStatement_87 : decode cX3_readsStatement 87 = .ok (.goto 4, 3) := by decide +kernel
theorem dX3_readsStatement_90 : decode cX3_readsStatement 90 = .ok (.iconst 0, 1) := by decide +kernel
theorem dX3_readsStatement_91 : decode cX3_readsStatement 91 = .ok (.istore_n 2, 1) := by decide +kernel
theorem dX3_readsStatement_92 : decode cX3_readsStatement 92 = .ok (.goto 78, 3) := by decide +kernel
theorem dX3_readsStatement_95 : decode cX3_readsStatement 95 = .ok (.aload_n 0, 1) := by decide +kernel
theorem dX3_readsStatement_96 : decode cX3_readsStatement 96 = .ok (.iconst 0, 1) := by decide +kernel
theorem dX3_readsStatement_97 : decode cX3_readsStatement 97 = .ok (.iconst 1, 1) := by decide +kernel
theorem dX3_readsStatement_98 : decode cX3_readsStatement 98 = .ok (.invokevirtual 89, 3) := by decide +kernel
theorem dX3_readsStatement_101 : decode cX3_readsStatement 101 = .ok (.ifCond .eq 16, 3) := by decide +kernel
theorem dX3_readsStatement_104 : decode cX3_readsStatement 104 = .ok (.aload_n 0, 1) := by decide +kernel
theorem dX3_readsStatement_105 : decode cX3_readsStatement 105 = .ok (.iconst 1, 1) := by decide +kernel
theorem dX3_readsStatement_106 : decode cX3_readsStatement 106 = .ok (.iconst 1, 1) := by decide +kernel
theorem dX3_readsStatement_107 : decode cX3_readsStatement 107 = .ok (.invokevirtual 89, 3) := by decide +kernel
theorem dX3_readsStatement_110 : decode cX3_readsStatement 110 = .ok (.ifCond .eq 7, 3) := by decide +kernel
theorem dX3_readsStatement_113 : decode cX3_readsStatement 113 = .ok (.iconst 1, 1) := by decide +kernel
theorem dX3_readsStatement_114 : decode cX3_readsStatement 114 = .ok (.goto 4, 3) := by decide +kernel
theorem dX3_readsStatement_117 : decode cX3_readsStatement 117 = .ok (.iconst 0, 1) := by decide +kernel
theorem dX3_readsStatement_118 : decode cX3_readsStatement 118 = .ok (.istore_n 2, 1) := by decide +kernel
theorem dX3_readsStatement_119 : decode cX3_readsStatement 119 = .ok (.goto 51, 3) := by decide +kernel
theorem dX3_readsStatement_122 : decode cX3_readsStatement 122 = .ok (.aload_n 0, 1) := by decide +kernel
theorem dX3_readsStatement_123 : decode cX3_readsStatement 123 = .ok (.iconst 0, 1) := by decide +kernel
theorem dX3_readsStatement_124 : decode cX3_readsStatement 124 = .ok (.iconst 1, 1) := by decide +kernel
theorem dX3_readsStatement_125 : decode cX3_readsStatement 125 = .ok (.invokevirtual 89, 3) := by decide +kernel
theorem dX3_readsStatement_128 : decode cX3_readsStatement 128 = .ok (.ifCond .eq 25, 3) := by decide +kernel
theorem dX3_readsStatement_131 : decode cX3_readsStatement 131 = .ok (.aload_n 0, 1) := by decide +kernel
theorem dX3_readsStatement_132 : decode cX3_readsStatement 132 = .ok (.bipush 44, 2) := by decide +kernel
theorem dX3_readsStatement_134 : decode cX3_readsStatement 134 = .ok (.invokevirtual 92, 3) := by decide +kernel
theorem dX3_readsStatement_137 : decode cX3_readsStatement 137 = .ok (.ifCond .eq 16, 3) := by decide +kernel
theorem dX3_readsStatement_140 : decode cX3_readsStatement 140 = .ok (.aload_n 0, 1) := by decide +kernel
theorem dX3_readsStatement_141 : decode cX3_readsStatement 141 = .ok (.iconst 1, 1) := by decide +kernel
theorem dX3_readsStatement_142 : decode cX3_readsStatement 142 = .ok (.iconst 2, 1) := by decide +kernel
theorem dX3_readsStatement_143 : decode cX3_readsStatement 143 = .ok (.invokevirtual 89, 3) := by decide +kernel
theorem dX3_readsStatement_146 : decode cX3_readsStatement 146 = .ok (.ifCond .eq 7, 3) := by decide +kernel
theorem dX3_readsStatement_149 : decode cX3_readsStatement 149 = .ok (.iconst 1, 1) := by decide +kernel
theorem dX3_readsStatement_150 : decode cX3_readsStatement 150 = .ok (.goto 4, 3) := by decide +kernel
theorem dX3_readsStatement_153 : decode cX3_readsStatement 153 = .ok (.iconst 0, 1) := by decide +kernel
theorem dX3_readsStatement_154 : decode cX3_readsStatement 154 = .ok (.istore_n 2, 1) := by decide +kernel
theorem dX3_readsStatement_155 : decode cX3_readsStatement 155 = .ok (.goto 15, 3) := by decide +kernel
theorem dX3_readsStatement_158 : decode cX3_readsStatement 158 = .ok (.aload_n 0, 1) := by decide +kernel
theorem dX3_readsStatement_159 : decode cX3_readsStatement 159 = .ok (.dup, 1) := by decide +kernel
theorem dX3_readsStatement_160 : decode cX3_readsStatement 160 = .ok (.getfield 75, 3) := by decide +kernel
theorem dX3_readsStatement_163 : decode cX3_readsStatement 163 = .ok (.iconst 1, 1) := by decide +kernel
theorem dX3_readsStatement_164 : decode cX3_readsStatement 164 = .ok (.isub, 1) := by decide +kernel
theorem dX3_readsStatement_165 : decode cX3_readsStatement 165 = .ok (.putfield 75, 3) := by decide +kernel
theorem dX3_readsStatement_168 : decode cX3_readsStatement 168 = .ok (.iconst 0, 1) := by decide +kernel
theorem dX3_readsStatement_169 : decode cX3_readsStatement 169 = .ok (.ireturn, 1) := by decide +kernel
theorem dX3_readsStatement_170 : decode cX3_readsStatement 170 = .ok (.iload_n 2, 1) := by decide +kernel
theorem dX3_readsStatement_171 : decode cX3_readsStatement 171 = .ok (.ifCond .eq 16, 3) := by decide +kernel
theorem dX3_readsStatement_174 : decode cX3_readsStatement 174 = .ok (.aload_n 0, 1) := by decide +kernel
theorem dX3_readsStatement_175 : decode cX3_readsStatement 175 = .ok (.bipush 59, 2) := by decide +kernel
theorem dX3_readsStatement_177 : decode cX3_readsStatement 177 = .ok (.invokevirtual 92, 3) := by decide +kernel
theorem dX3_readsStatement_180 : decode cX3_readsStatement 180 = .ok (.ifCond .eq 7, 3) := by decide +kernel
theorem dX3_readsStatement_183 : decode cX3_readsStatement 183 = .ok (.iconst 1, 1) := by decide +kernel
theorem dX3_readsStatement_184 : decode cX3_readsStatement 184 = .ok (.goto 4, 3) := by decide +kernel
theorem dX3_readsStatement_187 : decode cX3_readsStatement 187 = .ok (.iconst 0, 1) := by decide +kernel
theorem dX3_readsStatement_188 : decode cX3_readsStatement 188 = .ok (.ireturn, 1) := by decide +kernel
theorem dX3_setIn_0 : decode cX3_setIn 0 = .ok (.aload_n 0, 1) := by decide +kernel
theorem dX3_setIn_1 : decode cX3_setIn 1 = .ok (.iconst 2, 1) := by decide +kernel
theorem dX3_setIn_2 : decode cX3_setIn 2 = .ok (.bipush 7, 2) := by decide +kernel
theorem dX3_setIn_4 : decode cX3_setIn 4 = .ok (.iload_n 1, 1) := by decide +kernel
theorem dX3_setIn_5 : decode cX3_setIn 5 = .ok (.imul, 1) := by decide +kernel
theorem dX3_setIn_6 : decode cX3_setIn 6 = .ok (.iadd, 1) := by decide +kernel
theorem dX3_setIn_7 : decode cX3_setIn 7 = .ok (.iload_n 2, 1) := by decide +kernel
theorem dX3_setIn_8 : decode cX3_setIn 8 = .ok (.iadd, 1) := by decide +kernel
theorem dX3_setIn_9 : decode cX3_setIn 9 = .ok (.iload_n 3, 1) := by decide +kernel
theorem dX3_setIn_10 : decode cX3_setIn 10 = .ok (.iastore, 1) := by decide +kernel
theorem dX3_setIn_11 : decode cX3_setIn 11 = .ok (.return_, 1) := by decide +kernel
theorem dX3_comes_0 : decode cX3_comes 0 = .ok (.aload_n 0, 1) := by decide +kernel
theorem dX3_comes_1 : decode cX3_comes 1 = .ok (.getfield 35, 3) := by decide +kernel
theorem dX3_comes_4 : decode cX3_comes 4 = .ok (.iconst 0, 1) := by decide +kernel
theorem dX3_comes_5 : decode cX3_comes 5 = .ok (.iaload, 1) := by decide +kernel
theorem dX3_comes_6 : decode cX3_comes 6 = .ok (.istore_n 2, 1) := by decide +kernel
theorem dX3_comes_7 : decode cX3_comes 7 = .ok (.iload_n 1, 1) := by decide +kernel
theorem dX3_comes_8 : decode cX3_comes 8 = .ok (.lookupswitch 217 #[(109, 173), (115, 28)], 28) := by decide +kernel
theorem dX3_comes_36 : decode cX3_comes 36 = .ok (.aload_n 0, 1) := by decide +kernel
theorem dX3_comes_37 : decode cX3_comes 37 = .ok (.getfield 19, 3) := by decide +kernel
theorem dX3_comes_40 : decode cX3_comes 40 = .ok (.iconst 0, 1) := by decide +kernel
theorem dX3_comes_41 : decode cX3_comes 41 = .ok (.iaload, 1) := by decide +kernel
theorem dX3_comes_42 : decode cX3_comes 42 = .ok (.istore_n 3, 1) := by decide +kernel
theorem dX3_comes_43 : decode cX3_comes 43 = .ok (.aload_n 0, 1) := by decide +kernel
theorem dX3_comes_44 : decode cX3_comes 44 = .ok (.getfield 35, 3) := by decide +kernel
theorem dX3_comes_47 : decode cX3_comes 47 = .ok (.iconst 2, 1) := by decide +kernel
theorem dX3_comes_48 : decode cX3_comes 48 = .ok (.iaload, 1) := by decide +kernel
theorem dX3_comes_49 : decode cX3_comes 49 = .ok (.iconst 3, 1) := by decide +kernel
theorem dX3_comes_50 : decode cX3_comes 50 = .ok (.if_icmp .gt 19, 3) := by decide +kernel
theorem dX3_comes_53 : decode cX3_comes 53 = .ok (.aload_n 0, 1) := by decide +kernel
theorem dX3_comes_54 : decode cX3_comes 54 = .ok (.getfield 35, 3) := by decide +kernel
theorem dX3_comes_57 : decode cX3_comes 57 = .ok (.iconst 3, 1) := by decide +kernel
theorem dX3_comes_58 : decode cX3_comes 58 = .ok (.iaload, 1) := by decide +kernel
theorem dX3_comes_59 : decode cX3_comes 59 = .ok (.iconst 4, 1) := by decide +kernel
theorem dX3_comes_60 : decode cX3_comes 60 = .ok (.if_icmp .gt 9, 3) := by decide +kernel
theorem dX3_comes_63 : decode cX3_comes 63 = .ok (.iload_n 3, 1) := by decide +kernel
theorem dX3_comes_64 : decode cX3_comes 64 = .ok (.bipush 6, 2) := by decide +kernel
theorem dX3_comes_66 : decode cX3_comes 66 = .ok (.if_icmp .ne 5, 3) := by decide +kernel
theorem dX3_comes_69 : decode cX3_comes 69 = .ok (.iconst 0, 1) := by decide +kernel
theorem dX3_comes_70 : decode cX3_comes 70 = .ok (.ireturn, 1) := by decide +kernel
theorem dX3_comes_71 : decode cX3_comes 71 = .ok (.iconst 0, 1) := by decide +kernel
theorem dX3_comes_72 : decode cX3_comes 72 = .ok (.istore 4, 2) := by decide +kernel
theorem dX3_comes_74 : decode cX3_comes 74 = .ok (.iload 4, 2) := by decide +kernel
theorem dX3_comes_76 : decode cX3_comes 76 = .ok (.iconst 4, 1) := by decide +kernel
theorem dX3_comes_77 : decode cX3_comes 77 = .ok (.if_icmp .ge 26, 3) := by decide +kernel
theorem dX3_comes_80 : decode cX3_comes 80 = .ok (.aload_n 0, 1) := by decide +kernel
theorem dX3_comes_81 : decode cX3_comes 81 = .ok (.getfield 19, 3) := by decide +kernel
theorem dX3_comes_84 : decode cX3_comes 84 = .ok (.iload_n 3, 1) := by decide +kernel
theorem dX3_comes_85 : decode cX3_comes 85 = .ok (.iload 4, 2) := by decide +kernel
theorem dX3_comes_87 : decode cX3_comes 87 = .ok (.aload_n 0, 1) := by decide +kernel
theorem dX3_comes_88 : decode cX3_comes 88 = .ok (.getfield 35, 3) := by decide +kernel
theorem dX3_comes_91 : decode cX3_comes 91 = .ok (.iload 4, 2) := by decide +kernel
theorem dX3_comes_93 : decode cX3_comes 93 = .ok (.iaload, 1) := by decide +kernel
theorem dX3_comes_94 : decode cX3_comes 94 = .ok (.invokestatic 96, 3) := by decide +kernel
theorem dX3_comes_97 : decode cX3_comes 97 = .ok (.iinc 4 1, 3) := by decide +kernel
theorem dX3_comes_100 : decode cX3_comes 100 = .ok (.goto (-26), 3) := by decide +kernel
theorem dX3_comes_103 : decode cX3_comes 103 = .ok (.aload_n 0, 1) := by decide +kernel
theorem dX3_comes_104 : decode cX3_comes 104 = .ok (.getfield 19, 3) := by decide +kernel
theorem dX3_comes_107 : decode cX3_comes 107 = .ok (.iload_n 3, 1) := by decide +kernel
theorem dX3_comes_108 : decode cX3_comes 108 = .ok (.iconst 4, 1) := by decide +kernel
theorem dX3_comes_109 : decode cX3_comes 109 = .ok (.bipush 9, 2) := by decide +kernel
theorem dX3_comes_111 : decode cX3_comes 111 = .ok (.invokestatic 96, 3) := by decide +kernel
theorem dX3_comes_114 : decode cX3_comes 114 = .ok (.aload_n 0, 1) := by decide +kernel
theorem dX3_comes_115 : decode cX3_comes 115 = .ok (.getfield 19, 3) := by decide +kernel
theorem dX3_comes_118 : decode cX3_comes 118 = .ok (.iload_n 3, 1) := by decide +kernel
theorem dX3_comes_119 : decode cX3_comes 119 = .ok (.iconst 5, 1) := by decide +kernel
theorem dX3_comes_120 : decode cX3_comes 120 = .ok (.iconst 0, 1) := by decide +kernel
theorem dX3_comes_121 : decode cX3_comes 121 = .ok (.invokestatic 96, 3) := by decide +kernel
theorem dX3_comes_124 : decode cX3_comes 124 = .ok (.aload_n 0, 1) := by decide +kernel
theorem dX3_comes_125 : decode cX3_comes 125 = .ok (.getfield 19, 3) := by decide +kernel
theorem dX3_comes_128 : decode cX3_comes 128 = .ok (.iload_n 3, 1) := by decide +kernel
theorem dX3_comes_129 : decode cX3_comes 129 = .ok (.bipush 6, 2) := by decide +kernel
theorem dX3_comes_131 : decode cX3_comes 131 = .ok (.iconst 0, 1) := by decide +kernel
theorem dX3_comes_132 : decode cX3_comes 132 = .ok (.invokestatic 96, 3) := by decide +kernel
theorem dX3_comes_135 : decode cX3_comes 135 = .ok (.iload_n 3, 1) := by decide +kernel
theorem dX3_comes_136 : decode cX3_comes 136 = .ok (.ifCond .le 33, 3) := by decide +kernel
theorem dX3_comes_139 : decode cX3_comes 139 = .ok (.aload_n 0, 1) := by decide +kernel
theorem dX3_comes_140 : decode cX3_comes 140 = .ok (.getfield 19, 3) := by decide +kernel
theorem dX3_comes_143 : decode cX3_comes 143 = .ok (.iconst 2, 1) := by decide +kernel
theorem dX3_comes_144 : decode cX3_comes 144 = .ok (.bipush 7, 2) := by decide +kernel
theorem dX3_comes_146 : decode cX3_comes 146 = .ok (.iload_n 3, 1) := by decide +kernel
theorem dX3_comes_147 : decode cX3_comes 147 = .ok (.iconst 1, 1) := by decide +kernel
theorem dX3_comes_148 : decode cX3_comes 148 = .ok (.isub, 1) := by decide +kernel
theorem dX3_comes_149 : decode cX3_comes 149 = .ok (.imul, 1) := by decide +kernel
theorem dX3_comes_150 : decode cX3_comes 150 = .ok (.iadd, 1) := by decide +kernel
theorem dX3_comes_151 : decode cX3_comes 151 = .ok (.iconst 5, 1) := by decide +kernel
theorem dX3_comes_152 : decode cX3_comes 152 = .ok (.iadd, 1) := by decide +kernel
theorem dX3_comes_153 : decode cX3_comes 153 = .ok (.iaload, 1) := by decide +kernel
theorem dX3_comes_154 : decode cX3_comes 154 = .ok (.ifCond .ne 15, 3) := by decide +kernel
theorem dX3_comes_157 : decode cX3_comes 157 = .ok (.aload_n 0, 1) := by decide +kernel
theorem dX3_comes_158 : decode cX3_comes 158 = .ok (.getfield 19, 3) := by decide +kernel
theorem dX3_comes_161 : decode cX3_comes 161 = .ok (.iload_n 3, 1) := by decide +kernel
theorem dX3_comes_162 : decode cX3_comes 162 = .ok (.iconst 1, 1) := by decide +kernel
theorem dX3_comes_163 : decode cX3_comes 163 = .ok (.isub, 1) := by decide +kernel
theorem dX3_comes_164 : decode cX3_comes 164 = .ok (.iconst 5, 1) := by decide +kernel
theorem dX3_comes_165 : decode cX3_comes 165 = .ok (.iload_n 3, 1) := by decide +kernel
theorem dX3_comes_166 : decode cX3_comes 166 = .ok (.invokestatic 96, 3) := by decide +kernel
theorem dX3_comes_169 : decode cX3_comes 169 = .ok (.aload_n 0, 1) := by decide +kernel
theorem dX3_comes_170 : decode cX3_comes 170 = .ok (.getfield 19, 3) := by decide +kernel
theorem dX3_comes_173 : decode cX3_comes 173 = .ok (.iconst 0, 1) := by decide +kernel
theorem dX3_comes_174 : decode cX3_comes 174 = .ok (.dup2, 1) := by decide +kernel
theorem dX3_comes_175 : decode cX3_comes 175 = .ok (.iaload, 1) := by decide +kernel
theorem dX3_comes_176 : decode cX3_comes 176 = .ok (.iconst 1, 1) := by decide +kernel
theorem dX3_comes_177 : decode cX3_comes 177 = .ok (.iadd, 1) := by decide +kernel
theorem dX3_comes_178 : decode cX3_comes 178 = .ok (.iastore, 1) := by decide +kernel
theorem dX3_comes_179 : decode cX3_comes 179 = .ok (.iconst 1, 1) := by decide +kernel
theorem dX3_comes_180 : decode cX3_comes 180 = .ok (.ireturn, 1) := by decide +kernel
theorem dX3_comes_181 : decode cX3_comes 181 = .ok (.iload_n 2, 1) := by decide +kernel
theorem dX3_comes_182 : decode cX3_comes 182 = .ok (.aload_n 0, 1) := by decide +kernel
theorem dX3_comes_183 : decode cX3_comes 183 = .ok (.getfield 19, 3) := by decide +kernel
theorem dX3_comes_186 : decode cX3_comes 186 = .ok (.iconst 0, 1) := by decide +kernel
theorem dX3_comes_187 : decode cX3_comes 187 = .ok (.iaload, 1) := by decide +kernel
theorem dX3_comes_188 : decode cX3_comes 188 = .ok (.if_icmp .ge 18, 3) := by decide +kernel
theorem dX3_comes_191 : decode cX3_comes 191 = .ok (.aload_n 0, 1) := by decide +kernel
theorem dX3_comes_192 : decode cX3_comes 192 = .ok (.getfield 35, 3) := by decide +kernel
theorem dX3_comes_195 : decode cX3_comes 195 = .ok (.iconst 1, 1) := by decide +kernel
theorem dX3_comes_196 : decode cX3_comes 196 = .ok (.iaload, 1) := by decide +kernel
theorem dX3_comes_197 : decode cX3_comes 197 = .ok (.aload_n 0, 1) := by decide +kernel
theorem dX3_comes_198 : decode cX3_comes 198 = .ok (.getfield 19, 3) := by decide +kernel
theorem dX3_comes_201 : decode cX3_comes 201 = .ok (.iconst 0, 1) := by decide +kernel
theorem dX3_comes_202 : decode cX3_comes 202 = .ok (.iaload, 1) := by decide +kernel
theorem dX3_comes_203 : decode cX3_comes 203 = .ok (.if_icmp .lt 5, 3) := by decide +kernel
theorem dX3_comes_206 : decode cX3_comes 206 = .ok (.iconst 0, 1) := by decide +kernel
theorem dX3_comes_207 : decode cX3_comes 207 = .ok (.ireturn, 1) := by decide +kernel
theorem dX3_comes_208 : decode cX3_comes 208 = .ok (.aload_n 0, 1) := by decide +kernel
theorem dX3_comes_209 : decode cX3_comes 209 = .ok (.getfield 19, 3) := by decide +kernel
theorem dX3_comes_212 : decode cX3_comes 212 = .ok (.iload_n 2, 1) := by decide +kernel
theorem dX3_comes_213 : decode cX3_comes 213 = .ok (.iconst 5, 1) := by decide +kernel
theorem dX3_comes_214 : decode cX3_comes 214 = .ok (.aload_n 0, 1) := by decide +kernel
theorem dX3_comes_215 : decode cX3_comes 215 = .ok (.getfield 35, 3) := by decide +kernel
theorem dX3_comes_218 : decode cX3_comes 218 = .ok (.iconst 1, 1) := by decide +kernel
theorem dX3_comes_219 : decode cX3_comes 219 = .ok (.iaload, 1) := by decide +kernel
theorem dX3_comes_220 : decode cX3_comes 220 = .ok (.invokestatic 96, 3) := by decide +kernel
theorem dX3_comes_223 : decode cX3_comes 223 = .ok (.iconst 1, 1) := by decide +kernel
theorem dX3_comes_224 : decode cX3_comes 224 = .ok (.ireturn, 1) := by decide +kernel
theorem dX3_comes_225 : decode cX3_comes 225 = .ok (.iload_n 2, 1) := by decide +kernel
theorem dX3_comes_226 : decode cX3_comes 226 = .ok (.aload_n 0, 1) := by decide +kernel
theorem dX3_comes_227 : decode cX3_comes 227 = .ok (.getfield 19, 3) := by decide +kernel
theorem dX3_comes_230 : decode cX3_comes 230 = .ok (.iconst 0, 1) := by decide +kernel
theorem dX3_comes_231 : decode cX3_comes 231 = .ok (.iaload, 1) := by decide +kernel
theorem dX3_comes_232 : decode cX3_comes 232 = .ok (.if_icmp .lt 5, 3) := by decide +kernel
theorem dX3_comes_235 : decode cX3_comes 235 = .ok (.iconst 0, 1) := by decide +kernel
theorem dX3_comes_236 : decode cX3_comes 236 = .ok (.ireturn, 1) := by decide +kernel
theorem dX3_comes_237 : decode cX3_comes 237 = .ok (.aload_n 0, 1) := by decide +kernel
theorem dX3_comes_238 : decode cX3_comes 238 = .ok (.getfield 19, 3) := by decide +kernel
theorem dX3_comes_241 : decode cX3_comes 241 = .ok (.iload_n 2, 1) := by decide +kernel
theorem dX3_comes_242 : decode cX3_comes 242 = .ok (.iconst 4, 1) := by decide +kernel
theorem dX3_comes_243 : decode cX3_comes 243 = .ok (.aload_n 0, 1) := by decide +kernel
theorem dX3_comes_244 : decode cX3_comes 244 = .ok (.getfield 35, 3) := by decide +kernel
theorem dX3_comes_247 : decode cX3_comes 247 = .ok (.iconst 1, 1) := by decide +kernel
theorem dX3_comes_248 : decode cX3_comes 248 = .ok (.iaload, 1) := by decide +kernel
theorem dX3_comes_249 : decode cX3_comes 249 = .ok (.invokestatic 96, 3) := by decide +kernel
theorem dX3_comes_252 : decode cX3_comes 252 = .ok (.iconst 1, 1) := by decide +kernel
theorem dX3_comes_253 : decode cX3_comes 253 = .ok (.ireturn, 1) := by decide +kernel
theorem dX3_reads_0 : decode cX3_reads 0 = .ok (.aload_n 0, 1) := by decide +kernel
theorem dX3_reads_1 : decode cX3_reads 1 = .ok (.iconst 0, 1) := by decide +kernel
theorem dX3_reads_2 : decode cX3_reads 2 = .ok (.putfield 75, 3) := by decide +kernel
theorem dX3_reads_5 : decode cX3_reads 5 = .ok (.iconst 0, 1) := by decide +kernel
theorem dX3_reads_6 : decode cX3_reads 6 = .ok (.istore_n 1, 1) := by decide +kernel
theorem dX3_reads_7 : decode cX3_reads 7 = .ok (.aload_n 0, 1) := by decide +kernel
theorem dX3_reads_8 : decode cX3_reads 8 = .ok (.invokevirtual 100, 3) := by decide +kernel
theorem dX3_reads_11 : decode cX3_reads 11 = .ok (.ifCond .ne 12, 3) := by decide +kernel
theorem dX3_reads_14 : decode cX3_reads 14 = .ok (.sipush (-1000), 3) := by decide +kernel
theorem dX3_reads_17 : decode cX3_reads 17 = .ok (.aload_n 0, 1) := by decide +kernel
theorem dX3_reads_18 : decode cX3_reads 18 = .ok (.getfield 75, 3) := by decide +kernel
theorem dX3_reads_21 : decode cX3_reads 21 = .ok (.isub, 1) := by decide +kernel
theorem dX3_reads_22 : decode cX3_reads 22 = .ok (.ireturn, 1) := by decide +kernel
theorem dX3_reads_23 : decode cX3_reads 23 = .ok (.iinc 1 1, 3) := by decide +kernel
theorem dX3_reads_26 : decode cX3_reads 26 = .ok (.aload_n 0, 1) := by decide +kernel
theorem dX3_reads_27 : decode cX3_reads 27 = .ok (.getfield 75, 3) := by decide +kernel
theorem dX3_reads_30 : decode cX3_reads 30 = .ok (.aload_n 0, 1) := by decide +kernel
theorem dX3_reads_31 : decode cX3_reads 31 = .ok (.getfield 68, 3) := by decide +kernel
theorem dX3_reads_34 : decode cX3_reads 34 = .ok (.if_icmp .lt (-27), 3) := by decide +kernel
theorem dX3_reads_37 : decode cX3_reads 37 = .ok (.aload_n 0, 1) := by decide +kernel
theorem dX3_reads_38 : decode cX3_reads 38 = .ok (.getfield 13, 3) := by decide +kernel
theorem dX3_reads_41 : decode cX3_reads 41 = .ok (.aload_n 0, 1) := by decide +kernel
theorem dX3_reads_42 : decode cX3_reads 42 = .ok (.getfield 19, 3) := by decide +kernel
theorem dX3_reads_45 : decode cX3_reads 45 = .ok (.invokestatic 56, 3) := by decide +kernel
theorem dX3_reads_48 : decode cX3_reads 48 = .ok (.aload_n 0, 1) := by decide +kernel
theorem dX3_reads_49 : decode cX3_reads 49 = .ok (.iconst 0, 1) := by decide +kernel
theorem dX3_reads_50 : decode cX3_reads 50 = .ok (.putfield 75, 3) := by decide +kernel
theorem dX3_reads_53 : decode cX3_reads 53 = .ok (.aload_n 0, 1) := by decide +kernel
theorem dX3_reads_54 : decode cX3_reads 54 = .ok (.getfield 75, 3) := by decide +kernel
theorem dX3_reads_57 : decode cX3_reads 57 = .ok (.aload_n 0, 1) := by decide +kernel
theorem dX3_reads_58 : decode cX3_reads 58 = .ok (.getfield 68, 3) := by decide +kernel
theorem dX3_reads_61 : decode cX3_reads 61 = .ok (.if_icmp .ge 36, 3) := by decide +kernel
theorem dX3_reads_64 : decode cX3_reads 64 = .ok (.aload_n 0, 1) := by decide +kernel
theorem dX3_reads_65 : decode cX3_reads 65 = .ok (.getfield 75, 3) := by decide +kernel
theorem dX3_reads_68 : decode cX3_reads 68 = .ok (.istore_n 2, 1) := by decide +kernel
theorem dX3_reads_69 : decode cX3_reads 69 = .ok (.aload_n 0, 1) := by decide +kernel
theorem dX3_reads_70 : decode cX3_reads 70 = .ok (.invokevirtual 78, 3) := by decide +kernel
theorem dX3_reads_73 : decode cX3_reads 73 = .ok (.istore_n 3, 1) := by decide +kernel
theorem dX3_reads_74 : decode cX3_reads 74 = .ok (.aload_n 0, 1) := by decide +kernel
theorem dX3_reads_75 : decode cX3_reads 75 = .ok (.invokevirtual 100, 3) := by decide +kernel
theorem dX3_reads_78 : decode cX3_reads 78 = .ok (.istore 4, 2) := by decide +kernel
theorem dX3_reads_80 : decode cX3_reads 80 = .ok (.aload_n 0, 1) := by decide +kernel
theorem dX3_reads_81 : decode cX3_reads 81 = .ok (.iload_n 3, 1) := by decide +kernel
theorem dX3_reads_82 : decode cX3_reads 82 = .ok (.invokevirtual 103, 3) := by decide +kernel
theorem dX3_reads_85 : decode cX3_reads 85 = .ok (.ifCond .ne 9, 3) := by decide +kernel
theorem dX3_reads_88 : decode cX3_reads 88 = .ok (.sipush (-2000), 3) := by decide +kernel
theorem dX3_reads_91 : decode cX3_reads 91 = .ok (.iload_n 2, 1) := by decide +kernel
theorem dX3_reads_92 : decode cX3_reads 92 = .ok (.isub, 1) := by decide +kernel
theorem dX3_reads_93 : decode cX3_reads 93 = .ok (.ireturn, 1) := by decide +kernel
theorem dX3_reads_94 : decode cX3_reads 94 = .ok (.goto (-41), 3) := by decide +kernel
theorem dX3_reads_97 : decode cX3_reads 97 = .ok (.aload_n 0, 1) := by decide +kernel
theorem dX3_reads_98 : decode cX3_reads 98 = .ok (.getfield 19, 3) := by decide +kernel
theorem dX3_reads_101 : decode cX3_reads 101 = .ok (.aload_n 0, 1) := by decide +kernel
theorem dX3_reads_102 : decode cX3_reads 102 = .ok (.getfield 13, 3) := by decide +kernel
theorem dX3_reads_105 : decode cX3_reads 105 = .ok (.invokestatic 56, 3) := by decide +kernel
theorem dX3_reads_108 : decode cX3_reads 108 = .ok (.iload_n 1, 1) := by decide +kernel
theorem dX3_reads_109 : decode cX3_reads 109 = .ok (.ireturn, 1) := by decide +kernel
theorem dX3_town_0 : decode cX3_town 0 = .ok (.aload_n 0, 1) := by decide +kernel
theorem dX3_town_1 : decode cX3_town 1 = .ok (.invokevirtual 106, 3) := by decide +kernel
theorem dX3_town_4 : decode cX3_town 4 = .ok (.istore_n 1, 1) := by decide +kernel
theorem dX3_town_5 : decode cX3_town 5 = .ok (.aload_n 0, 1) := by decide +kernel
theorem dX3_town_6 : decode cX3_town 6 = .ok (.iconst 0, 1) := by decide +kernel
theorem dX3_town_7 : decode cX3_town 7 = .ok (.putfield 68, 3) := by decide +kernel
theorem dX3_town_10 : decode cX3_town 10 = .ok (.iload_n 1, 1) := by decide +kernel
theorem dX3_town_11 : decode cX3_town 11 = .ok (.ireturn, 1) := by decide +kernel
theorem dX3_trustOf_0 : decode cX3_trustOf 0 = .ok (.aload_n 0, 1) := by decide +kernel
theorem dX3_trustOf_1 : decode cX3_trustOf 1 = .ok (.iload_n 1, 1) := by decide +kernel
theorem dX3_trustOf_2 : decode cX3_trustOf 2 = .ok (.iconst 3, 1) := by decide +kernel
theorem dX3_trustOf_3 : decode cX3_trustOf 3 = .ok (.invokevirtual 109, 3) := by decide +kernel
theorem dX3_trustOf_6 : decode cX3_trustOf 6 = .ok (.aload_n 0, 1) := by decide +kernel
theorem dX3_trustOf_7 : decode cX3_trustOf 7 = .ok (.iload_n 1, 1) := by decide +kernel
theorem dX3_trustOf_8 : decode cX3_trustOf 8 = .ok (.bipush 6, 2) := by decide +kernel
theorem dX3_trustOf_10 : decode cX3_trustOf 10 = .ok (.invokevirtual 109, 3) := by decide +kernel
theorem dX3_trustOf_13 : decode cX3_trustOf 13 = .ok (.iconst 1, 1) := by decide +kernel
theorem dX3_trustOf_14 : decode cX3_trustOf 14 = .ok (.iadd, 1) := by decide +kernel
theorem dX3_trustOf_15 : decode cX3_trustOf 15 = .ok (.if_icmp .ge 12, 3) := by decide +kernel
theorem dX3_trustOf_18 : decode cX3_trustOf 18 = .ok (.aload_n 0, 1) := by decide +kernel
theorem dX3_trustOf_19 : decode cX3_trustOf 19 = .ok (.iload_n 1, 1) := by decide +kernel
theorem dX3_trustOf_20 : decode cX3_trustOf 20 = .ok (.iconst 3, 1) := by decide +kernel
theorem dX3_trustOf_21 : decode cX3_trustOf 21 = .ok (.invokevirtual 109, 3) := by decide +kernel
theorem dX3_trustOf_24 : decode cX3_trustOf 24 = .ok (.goto 12, 3) := by decide +kernel
theorem dX3_trustOf_27 : decode cX3_trustOf 27 = .ok (.aload_n 0, 1) := by decide +kernel
theorem dX3_trustOf_28 : decode cX3_trustOf 28 = .ok (.iload_n 1, 1) := by decide +kernel
theorem dX3_trustOf_29 : decode cX3_trustOf 29 = .ok (.bipush 6, 2) := by decide +kernel
theorem dX3_trustOf_31 : decode cX3_trustOf 31 = .ok (.invokevirtual 109, 3) := by decide +kernel
theorem dX3_trustOf_34 : decode cX3_trustOf 34 = .ok (.iconst 1, 1) := by decide +kernel
theorem dX3_trustOf_35 : decode cX3_trustOf 35 = .ok (.iadd, 1) := by decide +kernel
theorem dX3_trustOf_36 : decode cX3_trustOf 36 = .ok (.ireturn, 1) := by decide +kernel
theorem dX3_mendsBy_0 : decode cX3_mendsBy 0 = .ok (.aload_n 0, 1) := by decide +kernel
theorem dX3_mendsBy_1 : decode cX3_mendsBy 1 = .ok (.iload_n 1, 1) := by decide +kernel
theorem dX3_mendsBy_2 : decode cX3_mendsBy 2 = .ok (.iconst 3, 1) := by decide +kernel
theorem dX3_mendsBy_3 : decode cX3_mendsBy 3 = .ok (.invokevirtual 109, 3) := by decide +kernel
theorem dX3_mendsBy_6 : decode cX3_mendsBy 6 = .ok (.istore_n 2, 1) := by decide +kernel
theorem dX3_mendsBy_7 : decode cX3_mendsBy 7 = .ok (.iload_n 1, 1) := by decide +kernel
theorem dX3_mendsBy_8 : decode cX3_mendsBy 8 = .ok (.aload_n 0, 1) := by decide +kernel
theorem dX3_mendsBy_9 : decode cX3_mendsBy 9 = .ok (.getfield 25, 3) := by decide +kernel
theorem dX3_mendsBy_12 : decode cX3_mendsBy 12 = .ok (.if_icmp .eq 11, 3) := by decide +kernel
theorem dX3_mendsBy_15 : decode cX3_mendsBy 15 = .ok (.iload_n 1, 1) := by decide +kernel
theorem dX3_mendsBy_16 : decode cX3_mendsBy 16 = .ok (.aload_n 0, 1) := by decide +kernel
theorem dX3_mendsBy_17 : decode cX3_mendsBy 17 = .ok (.getfield 29, 3) := by decide +kernel
theorem dX3_mendsBy_20 : decode cX3_mendsBy 20 = .ok (.if_icmp .ne 5, 3) := by decide +kernel
theorem dX3_mendsBy_23 : decode cX3_mendsBy 23 = .ok (.iconst 0, 1) := by decide +kernel
theorem dX3_mendsBy_24 : decode cX3_mendsBy 24 = .ok (.ireturn, 1) := by decide +kernel
theorem dX3_mendsBy_25 : decode cX3_mendsBy 25 = .ok (.aload_n 0, 1) := by decide +kernel
theorem dX3_mendsBy_26 : decode cX3_mendsBy 26 = .ok (.iload_n 1, 1) := by decide +kernel
theorem dX3_mendsBy_27 : decode cX3_mendsBy 27 = .ok (.iconst 0, 1) := by decide +kernel
theorem dX3_mendsBy_28 : decode cX3_mendsBy 28 = .ok (.invokevirtual 109, 3) := by decide +kernel
theorem dX3_mendsBy_31 : decode cX3_mendsBy 31 = .ok (.tableswitch 103 1 5 #[33, 50, 56, 73, 77], 33) := by decide +kernel
theorem dX3_mendsBy_64 : decode cX3_mendsBy 64 = .ok (.aload_n 0, 1) := by decide +kernel
theorem dX3_mendsBy_65 : decode cX3_mendsBy 65 = .ok (.getfield 13, 3) := by decide +kernel
theorem dX3_mendsBy_68 : decode cX3_mendsBy 68 = .ok (.iconst 1, 1) := by decide +kernel
theorem dX3_mendsBy_69 : decode cX3_mendsBy 69 = .ok (.iaload, 1) := by decide +kernel
theorem dX3_mendsBy_70 : decode cX3_mendsBy 70 = .ok (.iconst 2, 1) := by decide +kernel
theorem dX3_mendsBy_71 : decode cX3_mendsBy 71 = .ok (.irem, 1) := by decide +kernel
theorem dX3_mendsBy_72 : decode cX3_mendsBy 72 = .ok (.ifCond .ne 7, 3) := by decide +kernel
theorem dX3_mendsBy_75 : decode cX3_mendsBy 75 = .ok (.iload_n 2, 1) := by decide +kernel
theorem dX3_mendsBy_76 : decode cX3_mendsBy 76 = .ok (.goto 4, 3) := by decide +kernel
theorem dX3_mendsBy_79 : decode cX3_mendsBy 79 = .ok (.iconst 0, 1) := by decide +kernel
theorem dX3_mendsBy_80 : decode cX3_mendsBy 80 = .ok (.ireturn, 1) := by decide +kernel
theorem dX3_mendsBy_81 : decode cX3_mendsBy 81 = .ok (.aload_n 0, 1) := by decide +kernel
theorem dX3_mendsBy_82 : decode cX3_mendsBy 82 = .ok (.iload_n 1, 1) := by decide +kernel
theorem dX3_mendsBy_83 : decode cX3_mendsBy 83 = .ok (.invokevirtual 113, 3) := by decide +kernel
theorem dX3_mendsBy_86 : decode cX3_mendsBy 86 = .ok (.ireturn, 1) := by decide +kernel
theorem dX3_mendsBy_87 : decode cX3_mendsBy 87 = .ok (.aload_n 0, 1) := by decide +kernel
theorem dX3_mendsBy_88 : decode cX3_mendsBy 88 = .ok (.iload_n 1, 1) := by decide +kernel
theorem dX3_mendsBy_89 : decode cX3_mendsBy 89 = .ok (.iconst 4, 1) := by decide +kernel
theorem dX3_mendsBy_90 : decode cX3_mendsBy 90 = .ok (.invokevirtual 109, 3) := by decide +kernel
theorem dX3_mendsBy_93 : decode cX3_mendsBy 93 = .ok (.ifCond .le 9, 3) := by decide +kernel
theorem dX3_mendsBy_96 : decode cX3_mendsBy 96 = .ok (.iload_n 2, 1) := by decide +kernel
theorem dX3_mendsBy_97 : decode cX3_mendsBy 97 = .ok (.iconst 1, 1) := by decide +kernel
theorem dX3_mendsBy_98 : decode cX3_mendsBy 98 = .ok (.iadd, 1) := by decide +kernel
theorem dX3_mendsBy_99 : decode cX3_mendsBy 99 = .ok (.goto 4, 3) := by decide +kernel
theorem dX3_mendsBy_102 : decode cX3_mendsBy 102 = .ok (.iconst 0, 1) := by decide +kernel
theorem dX3_mendsBy_103 : decode cX3_mendsBy 103 = .ok (.ireturn, 1) := by decide +kernel
theorem dX3_mendsBy_104 : decode cX3_mendsBy 104 = .ok (.iconst 2, 1) := by decide +kernel
theorem dX3_mendsBy_105 : decode cX3_mendsBy 105 = .ok (.iload_n 2, 1) := by decide +kernel
theorem dX3_mendsBy_106 : decode cX3_mendsBy 106 = .ok (.imul, 1) := by decide +kernel
theorem dX3_mendsBy_107 : decode cX3_mendsBy 107 = .ok (.ireturn, 1) := by decide +kernel
theorem dX3_mendsBy_108 : decode cX3_mendsBy 108 = .ok (.aload_n 0, 1) := by decide +kernel
theorem dX3_mendsBy_109 : decode cX3_mendsBy 109 = .ok (.aload_n 0, 1) := by decide +kernel
theorem dX3_mendsBy_110 : decode cX3_mendsBy 110 = .ok (.iload_n 1, 1) := by decide +kernel
theorem dX3_mendsBy_111 : decode cX3_mendsBy 111 = .ok (.iconst 5, 1) := by decide +kernel
theorem dX3_mendsBy_112 : decode cX3_mendsBy 112 = .ok (.invokevirtual 109, 3) := by decide +kernel
theorem dX3_mendsBy_115 : decode cX3_mendsBy 115 = .ok (.iconst 1, 1) := by decide +kernel
theorem dX3_mendsBy_116 : decode cX3_mendsBy 116 = .ok (.invokevirtual 109, 3) := by decide +kernel
theorem dX3_mendsBy_119 : decode cX3_mendsBy 119 = .ok (.bipush 6, 2) := by decide +kernel
theorem dX3_mendsBy_121 : decode cX3_mendsBy 121 = .ok (.if_icmp .lt 7, 3) := by decide +kernel
theorem dX3_mendsBy_124 : decode cX3_mendsBy 124 = .ok (.iload_n 2, 1) := by decide +kernel
theorem dX3_mendsBy_125 : decode cX3_mendsBy 125 = .ok (.goto 8, 3) := by decide +kernel
theorem dX3_mendsBy_128 : decode cX3_mendsBy 128 = .ok (.aload_n 0, 1) := by decide +kernel
theorem dX3_mendsBy_129 : decode cX3_mendsBy 129 = .ok (.iload_n 1, 1) := by decide +kernel
theorem dX3_mendsBy_130 : decode cX3_mendsBy 130 = .ok (.invokevirtual 113, 3) := by decide +kernel
theorem dX3_mendsBy_133 : decode cX3_mendsBy 133 = .ok (.ireturn, 1) := by decide +kernel
theorem dX3_mendsBy_134 : decode cX3_mendsBy 134 = .ok (.iload_n 2, 1) := by decide +kernel
theorem dX3_mendsBy_135 : decode cX3_mendsBy 135 = .ok (.ireturn, 1) := by decide +kernel
theorem dX3_paysFor_0 : decode cX3_paysFor 0 = .ok (.bipush (-9), 2) := by decide +kernel
theorem dX3_paysFor_2 : decode cX3_paysFor 2 = .ok (.istore_n 2, 1) := by decide +kernel
theorem dX3_paysFor_3 : decode cX3_paysFor 3 = .ok (.iconst 0, 1) := by decide +kernel
theorem dX3_paysFor_4 : decode cX3_paysFor 4 = .ok (.istore_n 3, 1) := by decide +kernel
theorem dX3_paysFor_5 : decode cX3_paysFor 5 = .ok (.iload_n 3, 1) := by decide +kernel
theorem dX3_paysFor_6 : decode cX3_paysFor 6 = .ok (.aload_n 0, 1) := by decide +kernel
theorem dX3_paysFor_7 : decode cX3_paysFor 7 = .ok (.getfield 13, 3) := by decide +kernel
theorem dX3_paysFor_10 : decode cX3_paysFor 10 = .ok (.iconst 0, 1) := by decide +kernel
theorem dX3_paysFor_11 : decode cX3_paysFor 11 = .ok (.iaload, 1) := by decide +kernel
theorem dX3_paysFor_12 : decode cX3_paysFor 12 = .ok (.if_icmp .ge 33, 3) := by decide +kernel
theorem dX3_paysFor_15 : decode cX3_paysFor 15 = .ok (.iload_n 2, 1) := by decide +kernel
theorem dX3_paysFor_16 : decode cX3_paysFor 16 = .ok (.ifCond .ge 29, 3) := by decide +kernel
theorem dX3_paysFor_19 : decode cX3_paysFor 19 = .ok (.iload_n 3, 1) := by decide +kernel
theorem dX3_paysFor_20 : decode cX3_paysFor 20 = .ok (.aload_n 0, 1) := by decide +kernel
theorem dX3_paysFor_21 : decode cX3_paysFor 21 = .ok (.getfield 29, 3) := by decide +kernel
theorem dX3_paysFor_24 : decode cX3_paysFor 24 = .ok (.if_icmp .eq 15, 3) := by decide +kernel
theorem dX3_paysFor_27 : decode cX3_paysFor 27 = .ok (.aload_n 0, 1) := by decide +kernel
theorem dX3_paysFor_28 : decode cX3_paysFor 28 = .ok (.iload_n 3, 1) := by decide +kernel
theorem dX3_paysFor_29 : decode cX3_paysFor 29 = .ok (.iconst 5, 1) := by decide +kernel
theorem dX3_paysFor_30 : decode cX3_paysFor 30 = .ok (.invokevirtual 109, 3) := by decide +kernel
theorem dX3_paysFor_33 : decode cX3_paysFor 33 = .ok (.iload_n 1, 1) := by decide +kernel
theorem dX3_paysFor_34 : decode cX3_paysFor 34 = .ok (.if_icmp .ne 5, 3) := by decide +kernel
theorem dX3_paysFor_37 : decode cX3_paysFor 37 = .ok (.iload_n 3, 1) := by decide +kernel
theorem dX3_paysFor_38 : decode cX3_paysFor 38 = .ok (.istore_n 2, 1) := by decide +kernel
theorem dX3_paysFor_39 : decode cX3_paysFor 39 = .ok (.iinc 3 1, 3) := by decide +kernel
theorem dX3_paysFor_42 : decode cX3_paysFor 42 = .ok (.goto (-37), 3) := by decide +kernel
theorem dX3_paysFor_45 : decode cX3_paysFor 45 = .ok (.iload_n 2, 1) := by decide +kernel
theorem dX3_paysFor_46 : decode cX3_paysFor 46 = .ok (.ifCond .ge 4, 3) := by decide +kernel
theorem dX3_paysFor_49 : decode cX3_paysFor 49 = .ok (.return_, 1) := by decide +kernel
theorem dX3_paysFor_50 : decode cX3_paysFor 50 = .ok (.aload_n 0, 1) := by decide +kernel
theorem dX3_paysFor_51 : decode cX3_paysFor 51 = .ok (.iload_n 1, 1) := by decide +kernel
theorem dX3_paysFor_52 : decode cX3_paysFor 52 = .ok (.iconst 4, 1) := by decide +kernel
theorem dX3_paysFor_53 : decode cX3_paysFor 53 = .ok (.aload_n 0, 1) := by decide +kernel
theorem dX3_paysFor_54 : decode cX3_paysFor 54 = .ok (.iload_n 1, 1) := by decide +kernel
theorem dX3_paysFor_55 : decode cX3_paysFor 55 = .ok (.iconst 4, 1) := by decide +kernel
theorem dX3_paysFor_56 : decode cX3_paysFor 56 = .ok (.invokevirtual 109, 3) := by decide +kernel
theorem dX3_paysFor_59 : decode cX3_paysFor 59 = .ok (.iconst 1, 1) := by decide +kernel
theorem dX3_paysFor_60 : decode cX3_paysFor 60 = .ok (.isub, 1) := by decide +kernel
theorem dX3_paysFor_61 : decode cX3_paysFor 61 = .ok (.invokevirtual 116, 3) := by decide +kernel
theorem dX3_paysFor_64 : decode cX3_paysFor 64 = .ok (.aload_n 0, 1) := by decide +kernel
theorem dX3_paysFor_65 : decode cX3_paysFor 65 = .ok (.iload_n 2, 1) := by decide +kernel
theorem dX3_paysFor_66 : decode cX3_paysFor 66 = .ok (.iconst 4, 1) := by decide +kernel
theorem dX3_paysFor_67 : decode cX3_paysFor 67 = .ok (.invokevirtual 109, 3) := by decide +kernel
theorem dX3_paysFor_70 : decode cX3_paysFor 70 = .ok (.bipush 99, 2) := by decide +kernel
theorem dX3_paysFor_72 : decode cX3_paysFor 72 = .ok (.if_icmp .ge 17, 3) := by decide +kernel
theorem dX3_paysFor_75 : decode cX3_paysFor 75 = .ok (.aload_n 0, 1) := by decide +kernel
theorem dX3_paysFor_76 : decode cX3_paysFor 76 = .ok (.iload_n 2, 1) := by decide +kernel
theorem dX3_paysFor_77 : decode cX3_paysFor 77 = .ok (.iconst 4, 1) := by decide +kernel
theorem dX3_paysFor_78 : decode cX3_paysFor 78 = .ok (.aload_n 0, 1) := by decide +kernel
theorem dX3_paysFor_79 : decode cX3_paysFor 79 = .ok (.iload_n 2, 1) := by decide +kernel
theorem dX3_paysFor_80 : decode cX3_paysFor 80 = .ok (.iconst 4, 1) := by decide +kernel
theorem dX3_paysFor_81 : decode cX3_paysFor 81 = .ok (.invokevirtual 109, 3) := by decide +kernel
theorem dX3_paysFor_84 : decode cX3_paysFor 84 = .ok (.iconst 1, 1) := by decide +kernel
theorem dX3_paysFor_85 : decode cX3_paysFor 85 = .ok (.iadd, 1) := by decide +kernel
theorem dX3_paysFor_86 : decode cX3_paysFor 86 = .ok (.invokevirtual 116, 3) := by decide +kernel
theorem dX3_paysFor_89 : decode cX3_paysFor 89 = .ok (.return_, 1) := by decide +kernel
theorem dX3_goes_0 : decode cX3_goes 0 = .ok (.iconst 0, 1) := by decide +kernel
theorem dX3_goes_1 : decode cX3_goes 1 = .ok (.istore_n 1, 1) := by decide +kernel
theorem dX3_goes_2 : decode cX3_goes 2 = .ok (.iconst 0, 1) := by decide +kernel
theorem dX3_goes_3 : decode cX3_goes 3 = .ok (.istore_n 2, 1) := by decide +kernel
theorem dX3_goes_4 : decode cX3_goes 4 = .ok (.iload_n 2, 1) := by decide +kernel
theorem dX3_goes_5 : decode cX3_goes 5 = .ok (.aload_n 0, 1) := by decide +kernel
theorem dX3_goes_6 : decode cX3_goes 6 = .ok (.getfield 13, 3) := by decide +kernel
theorem dX3_goes_9 : decode cX3_goes 9 = .ok (.iconst 0, 1) := by decide +kernel
theorem dX3_goes_10 : decode cX3_goes 10 = .ok (.iaload, 1) := by decide +kernel
theorem dX3_goes_11 : decode cX3_goes 11 = .ok (.if_icmp .ge 85, 3) := by decide +kernel
theorem dX3_goes_14 : decode cX3_goes 14 = .ok (.aload_n 0, 1) := by decide +kernel
theorem dX3_goes_15 : decode cX3_goes 15 = .ok (.iload_n 2, 1) := by decide +kernel
theorem dX3_goes_16 : decode cX3_goes 16 = .ok (.iconst 1, 1) := by decide +kernel
theorem dX3_goes_17 : decode cX3_goes 17 = .ok (.invokevirtual 109, 3) := by decide +kernel
theorem dX3_goes_20 : decode cX3_goes 20 = .ok (.aload_n 0, 1) := by decide +kernel
theorem dX3_goes_21 : decode cX3_goes 21 = .ok (.iload_n 2, 1) := by decide +kernel
theorem dX3_goes_22 : decode cX3_goes 22 = .ok (.iconst 2, 1) := by decide +kernel
theorem dX3_goes_23 : decode cX3_goes 23 = .ok (.invokevirtual 109, 3) := by decide +kernel
theorem dX3_goes_26 : decode cX3_goes 26 = .ok (.iadd, 1) := by decide +kernel
theorem dX3_goes_27 : decode cX3_goes 27 = .ok (.istore_n 3, 1) := by decide +kernel
theorem dX3_goes_28 : decode cX3_goes 28 = .ok (.aload_n 0, 1) := by decide +kernel
theorem dX3_goes_29 : decode cX3_goes 29 = .ok (.iload_n 2, 1) := by decide +kernel
theorem dX3_goes_30 : decode cX3_goes 30 = .ok (.iconst 1, 1) := by decide +kernel
theorem dX3_goes_31 : decode cX3_goes 31 = .ok (.iload_n 3, 1) := by decide +kernel
theorem dX3_goes_32 : decode cX3_goes 32 = .ok (.bipush 9, 2) := by decide +kernel
theorem dX3_goes_34 : decode cX3_goes 34 = .ok (.if_icmp .le 8, 3) := by decide +kernel
theorem dX3_goes_37 : decode cX3_goes 37 = .ok (.bipush 9, 2) := by decide +kernel
theorem dX3_goes_39 : decode cX3_goes 39 = .ok (.goto 4, 3) := by decide +kernel
theorem dX3_goes_42 : decode cX3_goes 42 = .ok (.iload_n 3, 1) := by decide +kernel
theorem dX3_goes_43 : decode cX3_goes 43 = .ok (.invokevirtual 116, 3) := by decide +kernel
theorem dX3_goes_46 : decode cX3_goes 46 = .ok (.aload_n 0, 1) := by decide +kernel
theorem dX3_goes_47 : decode cX3_goes 47 = .ok (.getfield 38, 3) := by decide +kernel
theorem dX3_goes_50 : decode cX3_goes 50 = .ok (.iload_n 2, 1) := by decide +kernel
theorem dX3_goes_51 : decode cX3_goes 51 = .ok (.iconst 0, 1) := by decide +kernel
theorem dX3_goes_52 : decode cX3_goes 52 = .ok (.iastore, 1) := by decide +kernel
theorem dX3_goes_53 : decode cX3_goes 53 = .ok (.iload_n 1, 1) := by decide +kernel
theorem dX3_goes_54 : decode cX3_goes 54 = .ok (.aload_n 0, 1) := by decide +kernel
theorem dX3_goes_55 : decode cX3_goes 55 = .ok (.iload_n 2, 1) := by decide +kernel
theorem dX3_goes_56 : decode cX3_goes 56 = .ok (.iconst 0, 1) := by decide +kernel
theorem dX3_goes_57 : decode cX3_goes 57 = .ok (.invokevirtual 109, 3) := by decide +kernel
theorem dX3_goes_60 : decode cX3_goes 60 = .ok (.iconst 3, 1) := by decide +kernel
theorem dX3_goes_61 : decode cX3_goes 61 = .ok (.if_icmp .ne 26, 3) := by decide +kernel
theorem dX3_goes_64 : decode cX3_goes 64 = .ok (.aload_n 0, 1) := by decide +kernel
theorem dX3_goes_65 : decode cX3_goes 65 = .ok (.iload_n 2, 1) := by decide +kernel
theorem dX3_goes_66 : decode cX3_goes 66 = .ok (.iconst 4, 1) := by decide +kernel
theorem dX3_goes_67 : decode cX3_goes 67 = .ok (.invokevirtual 109, 3) := by decide +kernel
theorem dX3_goes_70 : decode cX3_goes 70 = .ok (.ifCond .le 17, 3) := by decide +kernel
theorem dX3_goes_73 : decode cX3_goes 73 = .ok (.iload_n 2, 1) := by decide +kernel
theorem dX3_goes_74 : decode cX3_goes 74 = .ok (.aload_n 0, 1) := by decide +kernel
theorem dX3_goes_75 : decode cX3_goes 75 = .ok (.getfield 29, 3) := by decide +kernel
theorem dX3_goes_78 : decode cX3_goes 78 = .ok (.if_icmp .eq 9, 3) := by decide +kernel
theorem dX3_goes_81 : decode cX3_goes 81 = .ok (.iconst 1, 1) := by decide +kernel
theorem dX3_goes_82 : decode cX3_goes 82 = .ok (.iload_n 2, 1) := by decide +kernel
theorem dX3_goes_83 : decode cX3_goes 83 = .ok (.ishl, 1) := by decide +kernel
theorem dX3_goes_84 : decode cX3_goes 84 = .ok (.goto 4, 3) := by decide +kernel
theorem dX3_goes_87 : decode cX3_goes 87 = .ok (.iconst 0, 1) := by decide +kernel
theorem dX3_goes_88 : decode cX3_goes 88 = .ok (.ior, 1) := by decide +kernel
theorem dX3_goes_89 : decode cX3_goes 89 = .ok (.istore_n 1, 1) := by decide +kernel
theorem dX3_goes_90 : decode cX3_goes 90 = .ok (.iinc 2 1, 3) := by decide +kernel
theorem dX3_goes_93 : decode cX3_goes 93 = .ok (.goto (-89), 3) := by decide +kernel
theorem dX3_goes_96 : decode cX3_goes 96 = .ok (.iconst 0, 1) := by decide +kernel
theorem dX3_goes_97 : decode cX3_goes 97 = .ok (.istore_n 2, 1) := by decide +kernel
theorem dX3_goes_98 : decode cX3_goes 98 = .ok (.iload_n 2, 1) := by decide +kernel
theorem dX3_goes_99 : decode cX3_goes 99 = .ok (.aload_n 0, 1) := by decide +kernel
theorem dX3_goes_100 : decode cX3_goes 100 = .ok (.getfield 13, 3) := by decide +kernel
theorem dX3_goes_103 : decode cX3_goes 103 = .ok (.iconst 0, 1) := by decide +kernel
theorem dX3_goes_104 : decode cX3_goes 104 = .ok (.iaload, 1) := by decide +kernel
theorem dX3_goes_105 : decode cX3_goes 105 = .ok (.if_icmp .ge 28, 3) := by decide +kernel
theorem dX3_goes_108 : decode cX3_goes 108 = .ok (.aload_n 0, 1) := by decide +kernel
theorem dX3_goes_109 : decode cX3_goes 109 = .ok (.getfield 38, 3) := by decide +kernel
theorem dX3_goes_112 : decode cX3_goes 112 = .ok (.aload_n 0, 1) := by decide +kernel
theorem dX3_goes_113 : decode cX3_goes 113 = .ok (.iload_n 2, 1) := by decide +kernel
theorem dX3_goes_114 : decode cX3_goes 114 = .ok (.iconst 5, 1) := by decide +kernel
theorem dX3_goes_115 : decode cX3_goes 115 = .ok (.invokevirtual 109, 3) := by decide +kernel
theorem dX3_goes_118 : decode cX3_goes 118 = .ok (.dup2, 1) := by decide +kernel
theorem dX3_goes_119 : decode cX3_goes 119 = .ok (.iaload, 1) := by decide +kernel
theorem dX3_goes_120 : decode cX3_goes 120 = .ok (.aload_n 0, 1) := by decide +kernel
theorem dX3_goes_121 : decode cX3_goes 121 = .ok (.iload_n 2, 1) := by decide +kernel
theorem dX3_goes_122 : decode cX3_goes 122 = .ok (.invokevirtual 120, 3) := by decide +kernel
theorem dX3_goes_125 : decode cX3_goes 125 = .ok (.iadd, 1) := by decide +kernel
theorem dX3_goes_126 : decode cX3_goes 126 = .ok (.iastore, 1) := by decide +kernel
theorem dX3_goes_127 : decode cX3_goes 127 = .ok (.iinc 2 1, 3) := by decide +kernel
theorem dX3_goes_130 : decode cX3_goes 130 = .ok (.goto (-32), 3) := by decide +kernel
theorem dX3_goes_133 : decode cX3_goes 133 = .ok (.iconst 0, 1) := by decide +kernel
theorem dX3_goes_134 : decode cX3_goes 134 = .ok (.istore_n 2, 1) := by decide +kernel
theorem dX3_goes_135 : decode cX3_goes 135 = .ok (.iload_n 2, 1) := by decide +kernel
theorem dX3_goes_136 : decode cX3_goes 136 = .ok (.aload_n 0, 1) := by decide +kernel
theorem dX3_goes_137 : decode cX3_goes 137 = .ok (.getfield 13, 3) := by decide +kernel
theorem dX3_goes_140 : decode cX3_goes 140 = .ok (.iconst 0, 1) := by decide +kernel
theorem dX3_goes_141 : decode cX3_goes 141 = .ok (.iaload, 1) := by decide +kernel
theorem dX3_goes_142 : decode cX3_goes 142 = .ok (.if_icmp .ge 51, 3) := by decide +kernel
theorem dX3_goes_145 : decode cX3_goes 145 = .ok (.aload_n 0, 1) := by decide +kernel
theorem dX3_goes_146 : decode cX3_goes 146 = .ok (.iload_n 2, 1) := by decide +kernel
theorem dX3_goes_147 : decode cX3_goes 147 = .ok (.bipush 6, 2) := by decide +kernel
theorem dX3_goes_149 : decode cX3_goes 149 = .ok (.aload_n 0, 1) := by decide +kernel
theorem dX3_goes_150 : decode cX3_goes 150 = .ok (.getfield 38, 3) := by decide +kernel
theorem dX3_goes_153 : decode cX3_goes 153 = .ok (.iload_n 2, 1) := by decide +kernel
theorem dX3_goes_154 : decode cX3_goes 154 = .ok (.iaload, 1) := by decide +kernel
theorem dX3_goes_155 : decode cX3_goes 155 = .ok (.invokevirtual 116, 3) := by decide +kernel
theorem dX3_goes_158 : decode cX3_goes 158 = .ok (.aload_n 0, 1) := by decide +kernel
theorem dX3_goes_159 : decode cX3_goes 159 = .ok (.iload_n 2, 1) := by decide +kernel
theorem dX3_goes_160 : decode cX3_goes 160 = .ok (.iconst 1, 1) := by decide +kernel
theorem dX3_goes_161 : decode cX3_goes 161 = .ok (.invokevirtual 109, 3) := by decide +kernel
theorem dX3_goes_164 : decode cX3_goes 164 = .ok (.aload_n 0, 1) := by decide +kernel
theorem dX3_goes_165 : decode cX3_goes 165 = .ok (.getfield 38, 3) := by decide +kernel
theorem dX3_goes_168 : decode cX3_goes 168 = .ok (.iload_n 2, 1) := by decide +kernel
theorem dX3_goes_169 : decode cX3_goes 169 = .ok (.iaload, 1) := by decide +kernel
theorem dX3_goes_170 : decode cX3_goes 170 = .ok (.isub, 1) := by decide +kernel
theorem dX3_goes_171 : decode cX3_goes 171 = .ok (.istore_n 3, 1) := by decide +kernel
theorem dX3_goes_172 : decode cX3_goes 172 = .ok (.aload_n 0, 1) := by decide +kernel
theorem dX3_goes_173 : decode cX3_goes 173 = .ok (.iload_n 2, 1) := by decide +kernel
theorem dX3_goes_174 : decode cX3_goes 174 = .ok (.iconst 1, 1) := by decide +kernel
theorem dX3_goes_175 : decode cX3_goes 175 = .ok (.iload_n 3, 1) := by decide +kernel
theorem dX3_goes_176 : decode cX3_goes 176 = .ok (.ifCond .ge 7, 3) := by decide +kernel
theorem dX3_goes_179 : decode cX3_goes 179 = .ok (.iconst 0, 1) := by decide +kernel
theorem dX3_goes_180 : decode cX3_goes 180 = .ok (.goto 4, 3) := by decide +kernel
theorem dX3_goes_183 : decode cX3_goes 183 = .ok (.iload_n 3, 1) := by decide +kernel
theorem dX3_goes_184 : decode cX3_goes 184 = .ok (.invokevirtual 116, 3) := by decide +kernel
theorem dX3_goes_187 : decode cX3_goes 187 = .ok (.iinc 2 1, 3) := by decide +kernel
theorem dX3_goes_190 : decode cX3_goes 190 = .ok (.goto (-55), 3) := by decide +kernel
theorem dX3_goes_193 : decode cX3_goes 193 = .ok (.iconst 0, 1) := by decide +kernel
theorem dX3_goes_194 : decode cX3_goes 194 = .ok (.istore_n 2, 1) := by decide +kernel
theorem dX3_goes_195 : decode cX3_goes 195 = .ok (.iload_n 2, 1) := by decide +kernel
theorem dX3_goes_196 : decode cX3_goes 196 = .ok (.aload_n 0, 1) := by decide +kernel
theorem dX3_goes_197 : decode cX3_goes 197 = .ok (.getfield 13, 3) := by decide +kernel
theorem dX3_goes_200 : decode cX3_goes 200 = .ok (.iconst 0, 1) := by decide +kernel
theorem dX3_goes_201 : decode cX3_goes 201 = .ok (.iaload, 1) := by decide +kernel
theorem dX3_goes_202 : decode cX3_goes 202 = .ok (.if_icmp .ge 23, 3) := by decide +kernel
theorem dX3_goes_205 : decode cX3_goes 205 = .ok (.iload_n 1, 1) := by decide +kernel
theorem dX3_goes_206 : decode cX3_goes 206 = .ok (.iload_n 2, 1) := by decide +kernel
theorem dX3_goes_207 : decode cX3_goes 207 = .ok (.ishr, 1) := by decide +kernel
theorem dX3_goes_208 : decode cX3_goes 208 = .ok (.iconst 1, 1) := by decide +kernel
theorem dX3_goes_209 : decode cX3_goes 209 = .ok (.iand, 1) := by decide +kernel
theorem dX3_goes_210 : decode cX3_goes 210 = .ok (.iconst 1, 1) := by decide +kernel
theorem dX3_goes_211 : decode cX3_goes 211 = .ok (.if_icmp .ne 8, 3) := by decide +kernel
theorem dX3_goes_214 : decode cX3_goes 214 = .ok (.aload_n 0, 1) := by decide +kernel
theorem dX3_goes_215 : decode cX3_goes 215 = .ok (.iload_n 2, 1) := by decide +kernel
theorem dX3_goes_216 : decode cX3_goes 216 = .ok (.invokevirtual 123, 3) := by decide +kernel
theorem dX3_goes_219 : decode cX3_goes 219 = .ok (.iinc 2 1, 3) := by decide +kernel
theorem dX3_goes_222 : decode cX3_goes 222 = .ok (.goto (-27), 3) := by decide +kernel
theorem dX3_goes_225 : decode cX3_goes 225 = .ok (.aload_n 0, 1) := by decide +kernel
theorem dX3_goes_226 : decode cX3_goes 226 = .ok (.getfield 13, 3) := by decide +kernel
theorem dX3_goes_229 : decode cX3_goes 229 = .ok (.iconst 1, 1) := by decide +kernel
theorem dX3_goes_230 : decode cX3_goes 230 = .ok (.dup2, 1) := by decide +kernel
theorem dX3_goes_231 : decode cX3_goes 231 = .ok (.iaload, 1) := by decide +kernel
theorem dX3_goes_232 : decode cX3_goes 232 = .ok (.iconst 1, 1) := by decide +kernel
theorem dX3_goes_233 : decode cX3_goes 233 = .ok (.iadd, 1) := by decide +kernel
theorem dX3_goes_234 : decode cX3_goes 234 = .ok (.iastore, 1) := by decide +kernel
theorem dX3_goes_235 : decode cX3_goes 235 = .ok (.return_, 1) := by decide +kernel
theorem dX3_goesFor_0 : decode cX3_goesFor 0 = .ok (.iconst 0, 1) := by decide +kernel
theorem dX3_goesFor_1 : decode cX3_goesFor 1 = .ok (.istore_n 2, 1) := by decide +kernel
theorem dX3_goesFor_2 : decode cX3_goesFor 2 = .ok (.iload_n 2, 1) := by decide +kernel
theorem dX3_goesFor_3 : decode cX3_goesFor 3 = .ok (.iload_n 1, 1) := by decide +kernel
theorem dX3_goesFor_4 : decode cX3_goesFor 4 = .ok (.if_icmp .ge 13, 3) := by decide +kernel
theorem dX3_goesFor_7 : decode cX3_goesFor 7 = .ok (.aload_n 0, 1) := by decide +kernel
theorem dX3_goesFor_8 : decode cX3_goesFor 8 = .ok (.invokevirtual 127, 3) := by decide +kernel
theorem dX3_goesFor_11 : decode cX3_goesFor 11 = .ok (.iinc 2 1, 3) := by decide +kernel
theorem dX3_goesFor_14 : decode cX3_goesFor 14 = .ok (.goto (-12), 3) := by decide +kernel
theorem dX3_goesFor_17 : decode cX3_goesFor 17 = .ok (.return_, 1) := by decide +kernel
theorem dX3_mudOf_0 : decode cX3_mudOf 0 = .ok (.iconst 0, 1) := by decide +kernel
theorem dX3_mudOf_1 : decode cX3_mudOf 1 = .ok (.istore_n 2, 1) := by decide +kernel
theorem dX3_mudOf_2 : decode cX3_mudOf 2 = .ok (.iconst 0, 1) := by decide +kernel
theorem dX3_mudOf_3 : decode cX3_mudOf 3 = .ok (.istore_n 3, 1) := by decide +kernel
theorem dX3_mudOf_4 : decode cX3_mudOf 4 = .ok (.iload_n 3, 1) := by decide +kernel
theorem dX3_mudOf_5 : decode cX3_mudOf 5 = .ok (.iload_n 1, 1) := by decide +kernel
theorem dX3_mudOf_6 : decode cX3_mudOf 6 = .ok (.if_icmp .ge 18, 3) := by decide +kernel
theorem dX3_mudOf_9 : decode cX3_mudOf 9 = .ok (.iload_n 2, 1) := by decide +kernel
theorem dX3_mudOf_10 : decode cX3_mudOf 10 = .ok (.aload_n 0, 1) := by decide +kernel
theorem dX3_mudOf_11 : decode cX3_mudOf 11 = .ok (.iload_n 3, 1) := by decide +kernel
theorem dX3_mudOf_12 : decode cX3_mudOf 12 = .ok (.iconst 1, 1) := by decide +kernel
theorem dX3_mudOf_13 : decode cX3_mudOf 13 = .ok (.invokevirtual 109, 3) := by decide +kernel
theorem dX3_mudOf_16 : decode cX3_mudOf 16 = .ok (.iadd, 1) := by decide +kernel
theorem dX3_mudOf_17 : decode cX3_mudOf 17 = .ok (.istore_n 2, 1) := by decide +kernel
theorem dX3_mudOf_18 : decode cX3_mudOf 18 = .ok (.iinc 3 1, 3) := by decide +kernel
theorem dX3_mudOf_21 : decode cX3_mudOf 21 = .ok (.goto (-17), 3) := by decide +kernel
theorem dX3_mudOf_24 : decode cX3_mudOf 24 = .ok (.iload_n 2, 1) := by decide +kernel
theorem dX3_mudOf_25 : decode cX3_mudOf 25 = .ok (.ireturn, 1) := by decide +kernel
theorem dX3_allMud_0 : decode cX3_allMud 0 = .ok (.aload_n 0, 1) := by decide +kernel
theorem dX3_allMud_1 : decode cX3_allMud 1 = .ok (.aload_n 0, 1) := by decide +kernel
theorem dX3_allMud_2 : decode cX3_allMud 2 = .ok (.getfield 13, 3) := by decide +kernel
theorem dX3_allMud_5 : decode cX3_allMud 5 = .ok (.iconst 0, 1) := by decide +kernel
theorem dX3_allMud_6 : decode cX3_allMud 6 = .ok (.iaload, 1) := by decide +kernel
theorem dX3_allMud_7 : decode cX3_allMud 7 = .ok (.invokevirtual 130, 3) := by decide +kernel
theorem dX3_allMud_10 : decode cX3_allMud 10 = .ok (.ireturn, 1) := by decide +kernel
theorem dX3_mudBehind_0 : decode cX3_mudBehind 0 = .ok (.aload_n 0, 1) := by decide +kernel
theorem dX3_mudBehind_1 : decode cX3_mudBehind 1 = .ok (.iload_n 1, 1) := by decide +kernel
theorem dX3_mudBehind_2 : decode cX3_mudBehind 2 = .ok (.invokevirtual 133, 3) := by decide +kernel
theorem dX3_mudBehind_5 : decode cX3_mudBehind 5 = .ok (.aload_n 0, 1) := by decide +kernel
theorem dX3_mudBehind_6 : decode cX3_mudBehind 6 = .ok (.invokevirtual 136, 3) := by decide +kernel
theorem dX3_mudBehind_9 : decode cX3_mudBehind 9 = .ok (.istore_n 2, 1) := by decide +kernel
theorem dX3_mudBehind_10 : decode cX3_mudBehind 10 = .ok (.aload_n 0, 1) := by decide +kernel
theorem dX3_mudBehind_11 : decode cX3_mudBehind 11 = .ok (.invokevirtual 139, 3) := by decide +kernel
theorem dX3_mudBehind_14 : decode cX3_mudBehind 14 = .ok (.iload_n 2, 1) := by decide +kernel
theorem dX3_mudBehind_15 : decode cX3_mudBehind 15 = .ok (.ireturn, 1) := by decide +kernel
theorem dX3_fed_0 : decode cX3_fed 0 = .ok (.iconst 0, 1) := by decide +kernel
theorem dX3_fed_1 : decode cX3_fed 1 = .ok (.istore_n 2, 1) := by decide +kernel
theorem dX3_fed_2 : decode cX3_fed 2 = .ok (.iconst 0, 1) := by decide +kernel
theorem dX3_fed_3 : decode cX3_fed 3 = .ok (.istore_n 3, 1) := by decide +kernel
theorem dX3_fed_4 : decode cX3_fed 4 = .ok (.iload_n 3, 1) := by decide +kernel
theorem dX3_fed_5 : decode cX3_fed 5 = .ok (.aload_n 0, 1) := by decide +kernel
theorem dX3_fed_6 : decode cX3_fed 6 = .ok (.getfield 13, 3) := by decide +kernel
theorem dX3_fed_9 : decode cX3_fed 9 = .ok (.iconst 0, 1) := by decide +kernel
theorem dX3_fed_10 : decode cX3_fed 10 = .ok (.iaload, 1) := by decide +kernel
theorem dX3_fed_11 : decode cX3_fed 11 = .ok (.if_icmp .ge 27, 3) := by decide +kernel
theorem dX3_fed_14 : decode cX3_fed 14 = .ok (.iload_n 2, 1) := by decide +kernel
theorem dX3_fed_15 : decode cX3_fed 15 = .ok (.aload_n 0, 1) := by decide +kernel
theorem dX3_fed_16 : decode cX3_fed 16 = .ok (.iload_n 3, 1) := by decide +kernel
theorem dX3_fed_17 : decode cX3_fed 17 = .ok (.iconst 5, 1) := by decide +kernel
theorem dX3_fed_18 : decode cX3_fed 18 = .ok (.invokevirtual 109, 3) := by decide +kernel
theorem dX3_fed_21 : decode cX3_fed 21 = .ok (.iload_n 1, 1) := by decide +kernel
theorem dX3_fed_22 : decode cX3_fed 22 = .ok (.if_icmp .ne 7, 3) := by decide +kernel
theorem dX3_fed_25 : decode cX3_fed 25 = .ok (.iconst 1, 1) := by decide +kernel
theorem dX3_fed_26 : decode cX3_fed 26 = .ok (.goto 4, 3) := by decide +kernel
theorem dX3_fed_29 : decode cX3_fed 29 = .ok (.iconst 0, 1) := by decide +kernel
theorem dX3_fed_30 : decode cX3_fed 30 = .ok (.iadd, 1) := by decide +kernel
theorem dX3_fed_31 : decode cX3_fed 31 = .ok (.istore_n 2, 1) := by decide +kernel
theorem dX3_fed_32 : decode cX3_fed 32 = .ok (.iinc 3 1, 3) := by decide +kernel
theorem dX3_fed_35 : decode cX3_fed 35 = .ok (.goto (-31), 3) := by decide +kernel
theorem dX3_fed_38 : decode cX3_fed 38 = .ok (.iload_n 2, 1) := by decide +kernel
theorem dX3_fed_39 : decode cX3_fed 39 = .ok (.ireturn, 1) := by decide +kernel
theorem dX3_street_0 : decode cX3_street 0 = .ok (.aload_n 0, 1) := by decide +kernel
theorem dX3_street_1 : decode cX3_street 1 = .ok (.iload_n 1, 1) := by decide +kernel
theorem dX3_street_2 : decode cX3_street 2 = .ok (.invokevirtual 142, 3) := by decide +kernel
theorem dX3_street_5 : decode cX3_street 5 = .ok (.ifCond .ne 11, 3) := by decide +kernel
theorem dX3_street_8 : decode cX3_street 8 = .ok (.aload_n 0, 1) := by decide +kernel
theorem dX3_street_9 : decode cX3_street 9 = .ok (.iconst (-1), 1) := by decide +kernel
theorem dX3_street_10 : decode cX3_street 10 = .ok (.invokevirtual 71, 3) := by decide +kernel
theorem dX3_street_13 : decode cX3_street 13 = .ok (.goto 41, 3) := by decide +kernel
theorem dX3_street_16 : decode cX3_street 16 = .ok (.iload_n 2, 1) := by decide +kernel
theorem dX3_street_17 : decode cX3_street 17 = .ok (.bipush 7, 2) := by decide +kernel
theorem dX3_street_19 : decode cX3_street 19 = .ok (.if_icmp .ne 11, 3) := by decide +kernel
theorem dX3_street_22 : decode cX3_street 22 = .ok (.aload_n 0, 1) := by decide +kernel
theorem dX3_street_23 : decode cX3_street 23 = .ok (.iload_n 1, 1) := by decide +kernel
theorem dX3_street_24 : decode cX3_street 24 = .ok (.invokevirtual 145, 3) := by decide +kernel
theorem dX3_street_27 : decode cX3_street 27 = .ok (.goto 27, 3) := by decide +kernel
theorem dX3_street_30 : decode cX3_street 30 = .ok (.iload_n 2, 1) := by decide +kernel
theorem dX3_street_31 : decode cX3_street 31 = .ok (.bipush 7, 2) := by decide +kernel
theorem dX3_street_33 : decode cX3_street 33 = .ok (.invokestatic 60, 3) := by decide +kernel
theorem dX3_street_36 : decode cX3_street 36 = .ok (.ifCond .eq 12, 3) := by decide +kernel
theorem dX3_street_39 : decode cX3_street 39 = .ok (.aload_n 0, 1) := by decide +kernel
theorem dX3_street_40 : decode cX3_street 40 = .ok (.iload_n 1, 1) := by decide +kernel
theorem dX3_street_41 : decode cX3_street 41 = .ok (.iload_n 2, 1) := by decide +kernel
theorem dX3_street_42 : decode cX3_street 42 = .ok (.invokevirtual 109, 3) := by decide +kernel
theorem dX3_street_45 : decode cX3_street 45 = .ok (.goto 9, 3) := by decide +kernel
theorem dX3_street_48 : decode cX3_street 48 = .ok (.aload_n 0, 1) := by decide +kernel
theorem dX3_street_49 : decode cX3_street 49 = .ok (.bipush (-2), 2) := by decide +kernel
theorem dX3_street_51 : decode cX3_street 51 = .ok (.invokevirtual 71, 3) := by decide +kernel
theorem dX3_street_54 : decode cX3_street 54 = .ok (.ireturn, 1) := by decide +kernel
theorem dX3_mends_0 : decode cX3_mends 0 = .ok (.aload_n 0, 1) := by decide +kernel
theorem dX3_mends_1 : decode cX3_mends 1 = .ok (.iload_n 1, 1) := by decide +kernel
theorem dX3_mends_2 : decode cX3_mends 2 = .ok (.invokevirtual 142, 3) := by decide +kernel
theorem dX3_mends_5 : decode cX3_mends 5 = .ok (.ifCond .eq 11, 3) := by decide +kernel
theorem dX3_mends_8 : decode cX3_mends 8 = .ok (.aload_n 0, 1) := by decide +kernel
theorem dX3_mends_9 : decode cX3_mends 9 = .ok (.iload_n 2, 1) := by decide +kernel
theorem dX3_mends_10 : decode cX3_mends 10 = .ok (.invokevirtual 142, 3) := by decide +kernel
theorem dX3_mends_13 : decode cX3_mends 13 = .ok (.ifCond .ne 9, 3) := by decide +kernel
theorem dX3_mends_16 : decode cX3_mends 16 = .ok (.aload_n 0, 1) := by decide +kernel
theorem dX3_mends_17 : decode cX3_mends 17 = .ok (.iconst (-1), 1) := by decide +kernel
theorem dX3_mends_18 : decode cX3_mends 18 = .ok (.invokevirtual 71, 3) := by decide +kernel
theorem dX3_mends_21 : decode cX3_mends 21 = .ok (.ireturn, 1) := by decide +kernel
theorem dX3_mends_22 : decode cX3_mends 22 = .ok (.aload_n 0, 1) := by decide +kernel
theorem dX3_mends_23 : decode cX3_mends 23 = .ok (.iload_n 1, 1) := by decide +kernel
theorem dX3_mends_24 : decode cX3_mends 24 = .ok (.iconst 5, 1) := by decide +kernel
theorem dX3_mends_25 : decode cX3_mends 25 = .ok (.invokevirtual 109, 3) := by decide +kernel
theorem dX3_mends_28 : decode cX3_mends 28 = .ok (.istore_n 3, 1) := by decide +kernel
theorem dX3_mends_29 : decode cX3_mends 29 = .ok (.aload_n 0, 1) := by decide +kernel
theorem dX3_mends_30 : decode cX3_mends 30 = .ok (.iload_n 1, 1) := by decide +kernel
theorem dX3_mends_31 : decode cX3_mends 31 = .ok (.iconst 5, 1) := by decide +kernel
theorem dX3_mends_32 : decode cX3_mends 32 = .ok (.iload_n 2, 1) := by decide +kernel
theorem dX3_mends_33 : decode cX3_mends 33 = .ok (.invokevirtual 116, 3) := by decide +kernel
theorem dX3_mends_36 : decode cX3_mends 36 = .ok (.iload_n 3, 1) := by decide +kernel
theorem dX3_mends_37 : decode cX3_mends 37 = .ok (.ireturn, 1) := by decide +kernel
theorem dX3_becomes_0 : decode cX3_becomes 0 = .ok (.aload_n 0, 1) := by decide +kernel
theorem dX3_becomes_1 : decode cX3_becomes 1 = .ok (.iload_n 1, 1) := by decide +kernel
theorem dX3_becomes_2 : decode cX3_becomes 2 = .ok (.invokevirtual 142, 3) := by decide +kernel
theorem dX3_becomes_5 : decode cX3_becomes 5 = .ok (.ifCond .eq 13, 3) := by decide +kernel
theorem dX3_becomes_8 : decode cX3_becomes 8 = .ok (.iload_n 3, 1) := by decide +kernel
theorem dX3_becomes_9 : decode cX3_becomes 9 = .ok (.iconst 0, 1) := by decide +kernel
theorem dX3_becomes_10 : decode cX3_becomes 10 = .ok (.iload 4, 2) := by decide +kernel
theorem dX3_becomes_12 : decode cX3_becomes 12 = .ok (.invokestatic 64, 3) := by decide +kernel
theorem dX3_becomes_15 : decode cX3_becomes 15 = .ok (.goto 4, 3) := by decide +kernel
theorem dX3_becomes_18 : decode cX3_becomes 18 = .ok (.iconst (-1), 1) := by decide +kernel
theorem dX3_becomes_19 : decode cX3_becomes 19 = .ok (.istore 5, 2) := by decide +kernel
theorem dX3_becomes_21 : decode cX3_becomes 21 = .ok (.iload 5, 2) := by decide +kernel
theorem dX3_becomes_23 : decode cX3_becomes 23 = .ok (.ifCond .eq 10, 3) := by decide +kernel
theorem dX3_becomes_26 : decode cX3_becomes 26 = .ok (.aload_n 0, 1) := by decide +kernel
theorem dX3_becomes_27 : decode cX3_becomes 27 = .ok (.iload 5, 2) := by decide +kernel
theorem dX3_becomes_29 : decode cX3_becomes 29 = .ok (.invokevirtual 71, 3) := by decide +kernel
theorem dX3_becomes_32 : decode cX3_becomes 32 = .ok (.ireturn, 1) := by decide +kernel
theorem dX3_becomes_33 : decode cX3_becomes 33 = .ok (.aload_n 0, 1) := by decide +kernel
theorem dX3_becomes_34 : decode cX3_becomes 34 = .ok (.iload_n 1, 1) := by decide +kernel
theorem dX3_becomes_35 : decode cX3_becomes 35 = .ok (.iload_n 2, 1) := by decide +kernel
theorem dX3_becomes_36 : decode cX3_becomes 36 = .ok (.invokevirtual 109, 3) := by decide +kernel
theorem dX3_becomes_39 : decode cX3_becomes 39 = .ok (.istore 6, 2) := by decide +kernel
theorem dX3_becomes_41 : decode cX3_becomes 41 = .ok (.aload_n 0, 1) := by decide +kernel
theorem dX3_becomes_42 : decode cX3_becomes 42 = .ok (.iload_n 1, 1) := by decide +kernel
theorem dX3_becomes_43 : decode cX3_becomes 43 = .ok (.iload_n 2, 1) := by decide +kernel
theorem dX3_becomes_44 : decode cX3_becomes 44 = .ok (.iload_n 3, 1) := by decide +kernel
theorem dX3_becomes_45 : decode cX3_becomes 45 = .ok (.invokevirtual 116, 3) := by decide +kernel
theorem dX3_becomes_48 : decode cX3_becomes 48 = .ok (.iload 6, 2) := by decide +kernel
theorem dX3_becomes_50 : decode cX3_becomes 50 = .ok (.ireturn, 1) := by decide +kernel
theorem dX3_pence_0 : decode cX3_pence 0 = .ok (.aload_n 0, 1) := by decide +kernel
theorem dX3_pence_1 : decode cX3_pence 1 = .ok (.iload_n 1, 1) := by decide +kernel
theorem dX3_pence_2 : decode cX3_pence 2 = .ok (.iconst 4, 1) := by decide +kernel
theorem dX3_pence_3 : decode cX3_pence 3 = .ok (.iload_n 2, 1) := by decide +kernel
theorem dX3_pence_4 : decode cX3_pence 4 = .ok (.bipush 99, 2) := by decide +kernel
theorem dX3_pence_6 : decode cX3_pence 6 = .ok (.invokevirtual 148, 3) := by decide +kernel
theorem dX3_pence_9 : decode cX3_pence 9 = .ok (.ireturn, 1) := by decide +kernel
theorem dX3_hands_0 : decode cX3_hands 0 = .ok (.aload_n 0, 1) := by decide +kernel
theorem dX3_hands_1 : decode cX3_hands 1 = .ok (.iload_n 1, 1) := by decide +kernel
theorem dX3_hands_2 : decode cX3_hands 2 = .ok (.iconst 3, 1) := by decide +kernel
theorem dX3_hands_3 : decode cX3_hands 3 = .ok (.iload_n 2, 1) := by decide +kernel
theorem dX3_hands_4 : decode cX3_hands 4 = .ok (.iconst 4, 1) := by decide +kernel
theorem dX3_hands_5 : decode cX3_hands 5 = .ok (.invokevirtual 148, 3) := by decide +kernel
theorem dX3_hands_8 : decode cX3_hands 8 = .ok (.ireturn, 1) := by decide +kernel
theorem dX3_year_0 : decode cX3_year 0 = .ok (.aload_n 0, 1) := by decide +kernel
theorem dX3_year_1 : decode cX3_year 1 = .ok (.getfield 13, 3) := by decide +kernel
theorem dX3_year_4 : decode cX3_year 4 = .ok (.iconst 1, 1) := by decide +kernel
theorem dX3_year_5 : decode cX3_year 5 = .ok (.iaload, 1) := by decide +kernel
theorem dX3_year_6 : decode cX3_year 6 = .ok (.sipush 999, 3) := by decide +kernel
theorem dX3_year_9 : decode cX3_year 9 = .ok (.if_icmp .ne 10, 3) := by decide +kernel
theorem dX3_year_12 : decode cX3_year 12 = .ok (.aload_n 0, 1) := by decide +kernel
theorem dX3_year_13 : decode cX3_year 13 = .ok (.bipush (-6), 2) := by decide +kernel
theorem dX3_year_15 : decode cX3_year 15 = .ok (.invokevirtual 71, 3) := by decide +kernel
theorem dX3_year_18 : decode cX3_year 18 = .ok (.ireturn, 1) := by decide +kernel
theorem dX3_year_19 : decode cX3_year 19 = .ok (.aload_n 0, 1) := by decide +kernel
theorem dX3_year_20 : decode cX3_year 20 = .ok (.invokevirtual 127, 3) := by decide +kernel
theorem dX3_year_23 : decode cX3_year 23 = .ok (.aload_n 0, 1) := by decide +kernel
theorem dX3_year_24 : decode cX3_year 24 = .ok (.invokevirtual 136, 3) := by decide +kernel
theorem dX3_year_27 : decode cX3_year 27 = .ok (.ireturn, 1) := by decide +kernel
theorem dX3_mud_0 : decode cX3_mud 0 = .ok (.iload_n 1, 1) := by decide +kernel
theorem dX3_mud_1 : decode cX3_mud 1 = .ok (.iconst (-1), 1) := by decide +kernel
theorem dX3_mud_2 : decode cX3_mud 2 = .ok (.if_icmp .eq 11, 3) := by decide +kernel
theorem dX3_mud_5 : decode cX3_mud 5 = .ok (.aload_n 0, 1) := by decide +kernel
theorem dX3_mud_6 : decode cX3_mud 6 = .ok (.iload_n 1, 1) := by decide +kernel
theorem dX3_mud_7 : decode cX3_mud 7 = .ok (.invokevirtual 142, 3) := by decide +kernel
theorem dX3_mud_10 : decode cX3_mud 10 = .ok (.ifCond .eq 13, 3) := by decide +kernel
theorem dX3_mud_13 : decode cX3_mud 13 = .ok (.iload_n 2, 1) := by decide +kernel
theorem dX3_mud_14 : decode cX3_mud 14 = .ok (.iconst 0, 1) := by decide +kernel
theorem dX3_mud_15 : decode cX3_mud 15 = .ok (.bipush 60, 2) := by decide +kernel
theorem dX3_mud_17 : decode cX3_mud 17 = .ok (.invokestatic 64, 3) := by decide +kernel
theorem dX3_mud_20 : decode cX3_mud 20 = .ok (.goto 4, 3) := by decide +kernel
theorem dX3_mud_23 : decode cX3_mud 23 = .ok (.iconst (-1), 1) := by decide +kernel
theorem dX3_mud_24 : decode cX3_mud 24 = .ok (.istore_n 3, 1) := by decide +kernel
theorem dX3_mud_25 : decode cX3_mud 25 = .ok (.iload_n 3, 1) := by decide +kernel
theorem dX3_mud_26 : decode cX3_mud 26 = .ok (.ifCond .eq 9, 3) := by decide +kernel
theorem dX3_mud_29 : decode cX3_mud 29 = .ok (.aload_n 0, 1) := by decide +kernel
theorem dX3_mud_30 : decode cX3_mud 30 = .ok (.iload_n 3, 1) := by decide +kernel
theorem dX3_mud_31 : decode cX3_mud 31 = .ok (.invokevirtual 71, 3) := by decide +kernel
theorem dX3_mud_34 : decode cX3_mud 34 = .ok (.ireturn, 1) := by decide +kernel
theorem dX3_mud_35 : decode cX3_mud 35 = .ok (.aload_n 0, 1) := by decide +kernel
theorem dX3_mud_36 : decode cX3_mud 36 = .ok (.invokevirtual 152, 3) := by decide +kernel
theorem dX3_mud_39 : decode cX3_mud 39 = .ok (.aload_n 0, 1) := by decide +kernel
theorem dX3_mud_40 : decode cX3_mud 40 = .ok (.iload_n 2, 1) := by decide +kernel
theorem dX3_mud_41 : decode cX3_mud 41 = .ok (.invokevirtual 133, 3) := by decide +kernel
theorem dX3_mud_44 : decode cX3_mud 44 = .ok (.iload_n 1, 1) := by decide +kernel
theorem dX3_mud_45 : decode cX3_mud 45 = .ok (.ifCond .ge 10, 3) := by decide +kernel
theorem dX3_mud_48 : decode cX3_mud 48 = .ok (.aload_n 0, 1) := by decide +kernel
theorem dX3_mud_49 : decode cX3_mud 49 = .ok (.invokevirtual 136, 3) := by decide +kernel
theorem dX3_mud_52 : decode cX3_mud 52 = .ok (.goto 9, 3) := by decide +kernel
theorem dX3_mud_55 : decode cX3_mud 55 = .ok (.aload_n 0, 1) := by decide +kernel
theorem dX3_mud_56 : decode cX3_mud 56 = .ok (.iload_n 1, 1) := by decide +kernel
theorem dX3_mud_57 : decode cX3_mud 57 = .ok (.iconst 1, 1) := by decide +kernel
theorem dX3_mud_58 : decode cX3_mud 58 = .ok (.invokevirtual 109, 3) := by decide +kernel
theorem dX3_mud_61 : decode cX3_mud 61 = .ok (.istore 4, 2) := by decide +kernel
theorem dX3_mud_63 : decode cX3_mud 63 = .ok (.aload_n 0, 1) := by decide +kernel
theorem dX3_mud_64 : decode cX3_mud 64 = .ok (.invokevirtual 139, 3) := by decide +kernel
theorem dX3_mud_67 : decode cX3_mud 67 = .ok (.iload 4, 2) := by decide +kernel
theorem dX3_mud_69 : decode cX3_mud 69 = .ok (.ireturn, 1) := by decide +kernel
theorem dX3_worst_0 : decode cX3_worst 0 = .ok (.iload_n 1, 1) := by decide +kernel
theorem dX3_worst_1 : decode cX3_worst 1 = .ok (.iconst 0, 1) := by decide +kernel
theorem dX3_worst_2 : decode cX3_worst 2 = .ok (.bipush 60, 2) := by decide +kernel
theorem dX3_worst_4 : decode cX3_worst 4 = .ok (.invokestatic 64, 3) := by decide +kernel
theorem dX3_worst_7 : decode cX3_worst 7 = .ok (.istore_n 3, 1) := by decide +kernel
theorem dX3_worst_8 : decode cX3_worst 8 = .ok (.iload_n 3, 1) := by decide +kernel
theorem dX3_worst_9 : decode cX3_worst 9 = .ok (.ifCond .ne 14, 3) := by decide +kernel
theorem dX3_worst_12 : decode cX3_worst 12 = .ok (.iload_n 2, 1) := by decide +kernel
theorem dX3_worst_13 : decode cX3_worst 13 = .ok (.iconst 2, 1) := by decide +kernel
theorem dX3_worst_14 : decode cX3_worst 14 = .ok (.invokestatic 60, 3) := by decide +kernel
theorem dX3_worst_17 : decode cX3_worst 17 = .ok (.ifCond .ne 6, 3) := by decide +kernel
theorem dX3_worst_20 : decode cX3_worst 20 = .ok (.bipush (-2), 2) := by decide +kernel
theorem dX3_worst_22 : decode cX3_worst 22 = .ok (.istore_n 3, 1) := by decide +kernel
theorem dX3_worst_23 : decode cX3_worst 23 = .ok (.iload_n 3, 1) := by decide +kernel
theorem dX3_worst_24 : decode cX3_worst 24 = .ok (.ifCond .eq 9, 3) := by decide +kernel
theorem dX3_worst_27 : decode cX3_worst 27 = .ok (.aload_n 0, 1) := by decide +kernel
theorem dX3_worst_28 : decode cX3_worst 28 = .ok (.iload_n 3, 1) := by decide +kernel
theorem dX3_worst_29 : decode cX3_worst 29 = .ok (.invokevirtual 71, 3) := by decide +kernel
theorem dX3_worst_32 : decode cX3_worst 32 = .ok (.ireturn, 1) := by decide +kernel
theorem dX3_worst_33 : decode cX3_worst 33 = .ok (.aload_n 0, 1) := by decide +kernel
theorem dX3_worst_34 : decode cX3_worst 34 = .ok (.invokevirtual 152, 3) := by decide +kernel
theorem dX3_worst_37 : decode cX3_worst 37 = .ok (.aload_n 0, 1) := by decide +kernel
theorem dX3_worst_38 : decode cX3_worst 38 = .ok (.iload_n 1, 1) := by decide +kernel
theorem dX3_worst_39 : decode cX3_worst 39 = .ok (.invokevirtual 133, 3) := by decide +kernel
theorem dX3_worst_42 : decode cX3_worst 42 = .ok (.bipush (-9), 2) := by decide +kernel
theorem dX3_worst_44 : decode cX3_worst 44 = .ok (.istore 4, 2) := by decide +kernel
theorem dX3_worst_46 : decode cX3_worst 46 = .ok (.iconst 0, 1) := by decide +kernel
theorem dX3_worst_47 : decode cX3_worst 47 = .ok (.istore 5, 2) := by decide +kernel
theorem dX3_worst_49 : decode cX3_worst 49 = .ok (.iconst 0, 1) := by decide +kernel
theorem dX3_worst_50 : decode cX3_worst 50 = .ok (.istore 6, 2) := by decide +kernel
theorem dX3_worst_52 : decode cX3_worst 52 = .ok (.iload 6, 2) := by decide +kernel
theorem dX3_worst_54 : decode cX3_worst 54 = .ok (.aload_n 0, 1) := by decide +kernel
theorem dX3_worst_55 : decode cX3_worst 55 = .ok (.getfield 13, 3) := by decide +kernel
theorem dX3_worst_58 : decode cX3_worst 58 = .ok (.iconst 0, 1) := by decide +kernel
theorem dX3_worst_59 : decode cX3_worst 59 = .ok (.iaload, 1) := by decide +kernel
theorem dX3_worst_60 : decode cX3_worst 60 = .ok (.if_icmp .ge 42, 3) := by decide +kernel
theorem dX3_worst_63 : decode cX3_worst 63 = .ok (.iload 4, 2) := by decide +kernel
theorem dX3_worst_65 : decode cX3_worst 65 = .ok (.ifCond .lt 18, 3) := by decide +kernel
theorem dX3_worst_68 : decode cX3_worst 68 = .ok (.aload_n 0, 1) := by decide +kernel
theorem dX3_worst_69 : decode cX3_worst 69 = .ok (.iload 6, 2) := by decide +kernel
theorem dX3_worst_71 : decode cX3_worst 71 = .ok (.iconst 1, 1) := by decide +kernel
theorem dX3_worst_72 : decode cX3_worst 72 = .ok (.invokevirtual 109, 3) := by decide +kernel
theorem dX3_worst_75 : decode cX3_worst 75 = .ok (.iload 5, 2) := by decide +kernel
theorem dX3_worst_77 : decode cX3_worst 77 = .ok (.if_icmp .gt 6, 3) := by decide +kernel
theorem dX3_worst_80 : decode cX3_worst 80 = .ok (.goto 16, 3) := by decide +kernel
theorem dX3_worst_83 : decode cX3_worst 83 = .ok (.iload 6, 2) := by decide +kernel
theorem dX3_worst_85 : decode cX3_worst 85 = .ok (.istore 4, 2) := by decide +kernel
theorem dX3_worst_87 : decode cX3_worst 87 = .ok (.aload_n 0, 1) := by decide +kernel
theorem dX3_worst_88 : decode cX3_worst 88 = .ok (.iload 6, 2) := by decide +kernel
theorem dX3_worst_90 : decode cX3_worst 90 = .ok (.iconst 1, 1) := by decide +kernel
theorem dX3_worst_91 : decode cX3_worst 91 = .ok (.invokevirtual 109, 3) := by decide +kernel
theorem dX3_worst_94 : decode cX3_worst 94 = .ok (.istore 5, 2) := by decide +kernel
theorem dX3_worst_96 : decode cX3_worst 96 = .ok (.iinc 6 1, 3) := by decide +kernel
theorem dX3_worst_99 : decode cX3_worst 99 = .ok (.goto (-47), 3) := by decide +kernel
theorem dX3_worst_102 : decode cX3_worst 102 = .ok (.aload_n 0, 1) := by decide +kernel
theorem dX3_worst_103 : decode cX3_worst 103 = .ok (.invokevirtual 139, 3) := by decide +kernel
theorem dX3_worst_106 : decode cX3_worst 106 = .ok (.iload_n 2, 1) := by decide +kernel
theorem dX3_worst_107 : decode cX3_worst 107 = .ok (.ifCond .ne 8, 3) := by decide +kernel
theorem dX3_worst_110 : decode cX3_worst 110 = .ok (.iload 5, 2) := by decide +kernel
theorem dX3_worst_112 : decode cX3_worst 112 = .ok (.goto 5, 3) := by decide +kernel
theorem dX3_worst_115 : decode cX3_worst 115 = .ok (.iload 4, 2) := by decide +kernel
theorem dX3_worst_117 : decode cX3_worst 117 = .ok (.ireturn, 1) := by decide +kernel
theorem dX3_isAsThen_0 : decode cX3_isAsThen 0 = .ok (.iconst 0, 1) := by decide +kernel
theorem dX3_isAsThen_1 : decode cX3_isAsThen 1 = .ok (.istore_n 1, 1) := by decide +kernel
theorem dX3_isAsThen_2 : decode cX3_isAsThen 2 = .ok (.iload_n 1, 1) := by decide +kernel
theorem dX3_isAsThen_3 : decode cX3_isAsThen 3 = .ok (.aload_n 0, 1) := by decide +kernel
theorem dX3_isAsThen_4 : decode cX3_isAsThen 4 = .ok (.getfield 13, 3) := by decide +kernel
theorem dX3_isAsThen_7 : decode cX3_isAsThen 7 = .ok (.iconst 0, 1) := by decide +kernel
theorem dX3_isAsThen_8 : decode cX3_isAsThen 8 = .ok (.iaload, 1) := by decide +kernel
theorem dX3_isAsThen_9 : decode cX3_isAsThen 9 = .ok (.if_icmp .ge 47, 3) := by decide +kernel
theorem dX3_isAsThen_12 : decode cX3_isAsThen 12 = .ok (.iconst 1, 1) := by decide +kernel
theorem dX3_isAsThen_13 : decode cX3_isAsThen 13 = .ok (.istore_n 2, 1) := by decide +kernel
theorem dX3_isAsThen_14 : decode cX3_isAsThen 14 = .ok (.iload_n 2, 1) := by decide +kernel
theorem dX3_isAsThen_15 : decode cX3_isAsThen 15 = .ok (.bipush 6, 2) := by decide +kernel
theorem dX3_isAsThen_17 : decode cX3_isAsThen 17 = .ok (.if_icmp .gt 33, 3) := by decide +kernel
theorem dX3_isAsThen_20 : decode cX3_isAsThen 20 = .ok (.aload_n 0, 1) := by decide +kernel
theorem dX3_isAsThen_21 : decode cX3_isAsThen 21 = .ok (.iload_n 1, 1) := by decide +kernel
theorem dX3_isAsThen_22 : decode cX3_isAsThen 22 = .ok (.iload_n 2, 1) := by decide +kernel
theorem dX3_isAsThen_23 : decode cX3_isAsThen 23 = .ok (.invokevirtual 109, 3) := by decide +kernel
theorem dX3_isAsThen_26 : decode cX3_isAsThen 26 = .ok (.aload_n 0, 1) := by decide +kernel
theorem dX3_isAsThen_27 : decode cX3_isAsThen 27 = .ok (.getfield 41, 3) := by decide +kernel
theorem dX3_isAsThen_30 : decode cX3_isAsThen 30 = .ok (.iconst 2, 1) := by decide +kernel
theorem dX3_isAsThen_31 : decode cX3_isAsThen 31 = .ok (.bipush 7, 2) := by decide +kernel
theorem dX3_isAsThen_33 : decode cX3_isAsThen 33 = .ok (.iload_n 1, 1) := by decide +kernel
theorem dX3_isAsThen_34 : decode cX3_isAsThen 34 = .ok (.imul, 1) := by decide +kernel
theorem dX3_isAsThen_35 : decode cX3_isAsThen 35 = .ok (.iadd, 1) := by decide +kernel
theorem dX3_isAsThen_36 : decode cX3_isAsThen 36 = .ok (.iload_n 2, 1) := by decide +kernel
theorem dX3_isAsThen_37 : decode cX3_isAsThen 37 = .ok (.iadd, 1) := by decide +kernel
theorem dX3_isAsThen_38 : decode cX3_isAsThen 38 = .ok (.iaload, 1) := by decide +kernel
theorem dX3_isAsThen_39 : decode cX3_isAsThen 39 = .ok (.if_icmp .eq 5, 3) := by decide +kernel
theorem dX3_isAsThen_42 : decode cX3_isAsThen 42 = .ok (.iconst 0, 1) := by decide +kernel
theorem dX3_isAsThen_43 : decode cX3_isAsThen 43 = .ok (.ireturn, 1) := by decide +kernel
theorem dX3_isAsThen_44 : decode cX3_isAsThen 44 = .ok (.iinc 2 5, 3) := by decide +kernel
theorem dX3_isAsThen_47 : decode cX3_isAsThen 47 = .ok (.goto (-33), 3) := by decide +kernel
theorem dX3_isAsThen_50 : decode cX3_isAsThen 50 = .ok (.iinc 1 1, 3) := by decide +kernel
theorem dX3_isAsThen_53 : decode cX3_isAsThen 53 = .ok (.goto (-51), 3) := by decide +kernel
theorem dX3_isAsThen_56 : decode cX3_isAsThen 56 = .ok (.iconst 1, 1) := by decide +kernel
theorem dX3_isAsThen_57 : decode cX3_isAsThen 57 = .ok (.ireturn, 1) := by decide +kernel
theorem dX3_again_0 : decode cX3_again 0 = .ok (.aload_n 0, 1) := by decide +kernel
theorem dX3_again_1 : decode cX3_again 1 = .ok (.invokevirtual 152, 3) := by decide +kernel
theorem dX3_again_4 : decode cX3_again 4 = .ok (.aload_n 0, 1) := by decide +kernel
theorem dX3_again_5 : decode cX3_again 5 = .ok (.bipush 40, 2) := by decide +kernel
theorem dX3_again_7 : decode cX3_again 7 = .ok (.invokevirtual 133, 3) := by decide +kernel
theorem dX3_again_10 : decode cX3_again 10 = .ok (.aload_n 0, 1) := by decide +kernel
theorem dX3_again_11 : decode cX3_again 11 = .ok (.getfield 13, 3) := by decide +kernel
theorem dX3_again_14 : decode cX3_again 14 = .ok (.aload_n 0, 1) := by decide +kernel
theorem dX3_again_15 : decode cX3_again 15 = .ok (.getfield 41, 3) := by decide +kernel
theorem dX3_again_18 : decode cX3_again 18 = .ok (.invokestatic 56, 3) := by decide +kernel
theorem dX3_again_21 : decode cX3_again 21 = .ok (.bipush (-9), 2) := by decide +kernel
theorem dX3_again_23 : decode cX3_again 23 = .ok (.istore_n 1, 1) := by decide +kernel
theorem dX3_again_24 : decode cX3_again 24 = .ok (.iconst 1, 1) := by decide +kernel
theorem dX3_again_25 : decode cX3_again 25 = .ok (.istore_n 2, 1) := by decide +kernel
theorem dX3_again_26 : decode cX3_again 26 = .ok (.iload_n 2, 1) := by decide +kernel
theorem dX3_again_27 : decode cX3_again 27 = .ok (.bipush 30, 2) := by decide +kernel
theorem dX3_again_29 : decode cX3_again 29 = .ok (.if_icmp .gt 31, 3) := by decide +kernel
theorem dX3_again_32 : decode cX3_again 32 = .ok (.iload_n 1, 1) := by decide +kernel
theorem dX3_again_33 : decode cX3_again 33 = .ok (.ifCond .ge 27, 3) := by decide +kernel
theorem dX3_again_36 : decode cX3_again 36 = .ok (.aload_n 0, 1) := by decide +kernel
theorem dX3_again_37 : decode cX3_again 37 = .ok (.invokevirtual 127, 3) := by decide +kernel
theorem dX3_again_40 : decode cX3_again 40 = .ok (.aload_n 0, 1) := by decide +kernel
theorem dX3_again_41 : decode cX3_again 41 = .ok (.invokevirtual 155, 3) := by decide +kernel
theorem dX3_again_44 : decode cX3_again 44 = .ok (.ifCond .eq 7, 3) := by decide +kernel
theorem dX3_again_47 : decode cX3_again 47 = .ok (.iload_n 2, 1) := by decide +kernel
theorem dX3_again_48 : decode cX3_again 48 = .ok (.goto 5, 3) := by decide +kernel
theorem dX3_again_51 : decode cX3_again 51 = .ok (.bipush (-9), 2) := by decide +kernel
theorem dX3_again_53 : decode cX3_again 53 = .ok (.istore_n 1, 1) := by decide +kernel
theorem dX3_again_54 : decode cX3_again 54 = .ok (.iinc 2 1, 3) := by decide +kernel
theorem dX3_again_57 : decode cX3_again 57 = .ok (.goto (-31), 3) := by decide +kernel
theorem dX3_again_60 : decode cX3_again 60 = .ok (.aload_n 0, 1) := by decide +kernel
theorem dX3_again_61 : decode cX3_again 61 = .ok (.invokevirtual 139, 3) := by decide +kernel
theorem dX3_again_64 : decode cX3_again 64 = .ok (.iload_n 1, 1) := by decide +kernel
theorem dX3_again_65 : decode cX3_again 65 = .ok (.ireturn, 1) := by decide +kernel
theorem dX3_wayOf_0 : decode cX3_wayOf 0 = .ok (.iload_n 1, 1) := by decide +kernel
theorem dX3_wayOf_1 : decode cX3_wayOf 1 = .ok (.istore_n 3, 1) := by decide +kernel
theorem dX3_wayOf_2 : decode cX3_wayOf 2 = .ok (.iconst 0, 1) := by decide +kernel
theorem dX3_wayOf_3 : decode cX3_wayOf 3 = .ok (.istore 4, 2) := by decide +kernel
theorem dX3_wayOf_5 : decode cX3_wayOf 5 = .ok (.iload 4, 2) := by decide +kernel
theorem dX3_wayOf_7 : decode cX3_wayOf 7 = .ok (.bipush 6, 2) := by decide +kernel
theorem dX3_wayOf_9 : decode cX3_wayOf 9 = .ok (.if_icmp .gt 24, 3) := by decide +kernel
theorem dX3_wayOf_12 : decode cX3_wayOf 12 = .ok (.iload_n 3, 1) := by decide +kernel
theorem dX3_wayOf_13 : decode cX3_wayOf 13 = .ok (.iload_n 2, 1) := by decide +kernel
theorem dX3_wayOf_14 : decode cX3_wayOf 14 = .ok (.if_icmp .ne 6, 3) := by decide +kernel
theorem dX3_wayOf_17 : decode cX3_wayOf 17 = .ok (.iload 4, 2) := by decide +kernel
theorem dX3_wayOf_19 : decode cX3_wayOf 19 = .ok (.ireturn, 1) := by decide +kernel
theorem dX3_wayOf_20 : decode cX3_wayOf 20 = .ok (.aload_n 0, 1) := by decide +kernel
theorem dX3_wayOf_21 : decode cX3_wayOf 21 = .ok (.iload_n 3, 1) := by decide +kernel
theorem dX3_wayOf_22 : decode cX3_wayOf 22 = .ok (.iconst 5, 1) := by decide +kernel
theorem dX3_wayOf_23 : decode cX3_wayOf 23 = .ok (.invokevirtual 109, 3) := by decide +kernel
theorem dX3_wayOf_26 : decode cX3_wayOf 26 = .ok (.istore_n 3, 1) := by decide +kernel
theorem dX3_wayOf_27 : decode cX3_wayOf 27 = .ok (.iinc 4 1, 3) := by decide +kernel
theorem dX3_wayOf_30 : decode cX3_wayOf 30 = .ok (.goto (-25), 3) := by decide +kernel
theorem dX3_wayOf_33 : decode cX3_wayOf 33 = .ok (.bipush (-9), 2) := by decide +kernel
theorem dX3_wayOf_35 : decode cX3_wayOf 35 = .ok (.ireturn, 1) := by decide +kernel
theorem dX3_isOnRing_0 : decode cX3_isOnRing 0 = .ok (.aload_n 0, 1) := by decide +kernel
theorem dX3_isOnRing_1 : decode cX3_isOnRing 1 = .ok (.aload_n 0, 1) := by decide +kernel
theorem dX3_isOnRing_2 : decode cX3_isOnRing 2 = .ok (.iload_n 1, 1) := by decide +kernel
theorem dX3_isOnRing_3 : decode cX3_isOnRing 3 = .ok (.iconst 5, 1) := by decide +kernel
theorem dX3_isOnRing_4 : decode cX3_isOnRing 4 = .ok (.invokevirtual 109, 3) := by decide +kernel
theorem dX3_isOnRing_7 : decode cX3_isOnRing 7 = .ok (.iload_n 1, 1) := by decide +kernel
theorem dX3_isOnRing_8 : decode cX3_isOnRing 8 = .ok (.invokevirtual 158, 3) := by decide +kernel
theorem dX3_isOnRing_11 : decode cX3_isOnRing 11 = .ok (.ifCond .lt 7, 3) := by decide +kernel
theorem dX3_isOnRing_14 : decode cX3_isOnRing 14 = .ok (.iconst 1, 1) := by decide +kernel
theorem dX3_isOnRing_15 : decode cX3_isOnRing 15 = .ok (.goto 4, 3) := by decide +kernel
theorem dX3_isOnRing_18 : decode cX3_isOnRing 18 = .ok (.iconst 0, 1) := by decide +kernel
theorem dX3_isOnRing_19 : decode cX3_isOnRing 19 = .ok (.ireturn, 1) := by decide +kernel
theorem dX3_way_0 : decode cX3_way 0 = .ok (.aload_n 0, 1) := by decide +kernel
theorem dX3_way_1 : decode cX3_way 1 = .ok (.iload_n 1, 1) := by decide +kernel
theorem dX3_way_2 : decode cX3_way 2 = .ok (.invokevirtual 142, 3) := by decide +kernel
theorem dX3_way_5 : decode cX3_way 5 = .ok (.ifCond .eq 20, 3) := by decide +kernel
theorem dX3_way_8 : decode cX3_way 8 = .ok (.aload_n 0, 1) := by decide +kernel
theorem dX3_way_9 : decode cX3_way 9 = .ok (.iload_n 2, 1) := by decide +kernel
theorem dX3_way_10 : decode cX3_way 10 = .ok (.invokevirtual 142, 3) := by decide +kernel
theorem dX3_way_13 : decode cX3_way 13 = .ok (.ifCond .eq 12, 3) := by decide +kernel
theorem dX3_way_16 : decode cX3_way 16 = .ok (.aload_n 0, 1) := by decide +kernel
theorem dX3_way_17 : decode cX3_way 17 = .ok (.iload_n 1, 1) := by decide +kernel
theorem dX3_way_18 : decode cX3_way 18 = .ok (.iload_n 2, 1) := by decide +kernel
theorem dX3_way_19 : decode cX3_way 19 = .ok (.invokevirtual 158, 3) := by decide +kernel
theorem dX3_way_22 : decode cX3_way 22 = .ok (.goto 8, 3) := by decide +kernel
theorem dX3_way_25 : decode cX3_way 25 = .ok (.aload_n 0, 1) := by decide +kernel
theorem dX3_way_26 : decode cX3_way 26 = .ok (.iconst (-1), 1) := by decide +kernel
theorem dX3_way_27 : decode cX3_way 27 = .ok (.invokevirtual 71, 3) := by decide +kernel
theorem dX3_way_30 : decode cX3_way 30 = .ok (.ireturn, 1) := by decide +kernel
theorem dX3_ring_0 : decode cX3_ring 0 = .ok (.iconst 0, 1) := by decide +kernel
theorem dX3_ring_1 : decode cX3_ring 1 = .ok (.istore_n 1, 1) := by decide +kernel
theorem dX3_ring_2 : decode cX3_ring 2 = .ok (.iconst 0, 1) := by decide +kernel
theorem dX3_ring_3 : decode cX3_ring 3 = .ok (.istore_n 2, 1) := by decide +kernel
theorem dX3_ring_4 : decode cX3_ring 4 = .ok (.iload_n 2, 1) := by decide +kernel
theorem dX3_ring_5 : decode cX3_ring 5 = .ok (.aload_n 0, 1) := by decide +kernel
theorem dX3_ring_6 : decode cX3_ring 6 = .ok (.getfield 13, 3) := by decide +kernel
theorem dX3_ring_9 : decode cX3_ring 9 = .ok (.iconst 0, 1) := by decide +kernel
theorem dX3_ring_10 : decode cX3_ring 10 = .ok (.iaload, 1) := by decide +kernel
theorem dX3_ring_11 : decode cX3_ring 11 = .ok (.if_icmp .ge 27, 3) := by decide +kernel
theorem dX3_ring_14 : decode cX3_ring 14 = .ok (.iload_n 1, 1) := by decide +kernel
theorem dX3_ring_15 : decode cX3_ring 15 = .ok (.aload_n 0, 1) := by decide +kernel
theorem dX3_ring_16 : decode cX3_ring 16 = .ok (.iload_n 2, 1) := by decide +kernel
theorem dX3_ring_17 : decode cX3_ring 17 = .ok (.invokevirtual 161, 3) := by decide +kernel
theorem dX3_ring_20 : decode cX3_ring 20 = .ok (.ifCond .eq 9, 3) := by decide +kernel
theorem dX3_ring_23 : decode cX3_ring 23 = .ok (.iconst 1, 1) := by decide +kernel
theorem dX3_ring_24 : decode cX3_ring 24 = .ok (.iload_n 2, 1) := by decide +kernel
theorem dX3_ring_25 : decode cX3_ring 25 = .ok (.ishl, 1) := by decide +kernel
theorem dX3_ring_26 : decode cX3_ring 26 = .ok (.goto 4, 3) := by decide +kernel
theorem dX3_ring_29 : decode cX3_ring 29 = .ok (.iconst 0, 1) := by decide +kernel
theorem dX3_ring_30 : decode cX3_ring 30 = .ok (.ior, 1) := by decide +kernel
theorem dX3_ring_31 : decode cX3_ring 31 = .ok (.istore_n 1, 1) := by decide +kernel
theorem dX3_ring_32 : decode cX3_ring 32 = .ok (.iinc 2 1, 3) := by decide +kernel
theorem dX3_ring_35 : decode cX3_ring 35 = .ok (.goto (-31), 3) := by decide +kernel
theorem dX3_ring_38 : decode cX3_ring 38 = .ok (.iload_n 1, 1) := by decide +kernel
theorem dX3_ring_39 : decode cX3_ring 39 = .ok (.ireturn, 1) := by decide +kernel
theorem dX3_tail_0 : decode cX3_tail 0 = .ok (.aload_n 0, 1) := by decide +kernel
theorem dX3_tail_1 : decode cX3_tail 1 = .ok (.iload_n 1, 1) := by decide +kernel
theorem dX3_tail_2 : decode cX3_tail 2 = .ok (.invokevirtual 142, 3) := by decide +kernel
theorem dX3_tail_5 : decode cX3_tail 5 = .ok (.ifCond .ne 9, 3) := by decide +kernel
theorem dX3_tail_8 : decode cX3_tail 8 = .ok (.aload_n 0, 1) := by decide +kernel
theorem dX3_tail_9 : decode cX3_tail 9 = .ok (.iconst (-1), 1) := by decide +kernel
theorem dX3_tail_10 : decode cX3_tail 10 = .ok (.invokevirtual 71, 3) := by decide +kernel
theorem dX3_tail_13 : decode cX3_tail 13 = .ok (.ireturn, 1) := by decide +kernel
theorem dX3_tail_14 : decode cX3_tail 14 = .ok (.iload_n 1, 1) := by decide +kernel
theorem dX3_tail_15 : decode cX3_tail 15 = .ok (.istore_n 2, 1) := by decide +kernel
theorem dX3_tail_16 : decode cX3_tail 16 = .ok (.iconst 0, 1) := by decide +kernel
theorem dX3_tail_17 : decode cX3_tail 17 = .ok (.istore_n 3, 1) := by decide +kernel
theorem dX3_tail_18 : decode cX3_tail 18 = .ok (.aload_n 0, 1) := by decide +kernel
theorem dX3_tail_19 : decode cX3_tail 19 = .ok (.iload_n 2, 1) := by decide +kernel
theorem dX3_tail_20 : decode cX3_tail 20 = .ok (.invokevirtual 161, 3) := by decide +kernel
theorem dX3_tail_23 : decode cX3_tail 23 = .ok (.ifCond .ne 16, 3) := by decide +kernel
theorem dX3_tail_26 : decode cX3_tail 26 = .ok (.aload_n 0, 1) := by decide +kernel
theorem dX3_tail_27 : decode cX3_tail 27 = .ok (.iload_n 2, 1) := by decide +kernel
theorem dX3_tail_28 : decode cX3_tail 28 = .ok (.iconst 5, 1) := by decide +kernel
theorem dX3_tail_29 : decode cX3_tail 29 = .ok (.invokevirtual 109, 3) := by decide +kernel
theorem dX3_tail_32 : decode cX3_tail 32 = .ok (.istore_n 2, 1) := by decide +kernel
theorem dX3_tail_33 : decode cX3_tail 33 = .ok (.iinc 3 1, 3) := by decide +kernel
theorem dX3_tail_36 : decode cX3_tail 36 = .ok (.goto (-18), 3) := by decide +kernel
theorem dX3_tail_39 : decode cX3_tail 39 = .ok (.iload_n 3, 1) := by decide +kernel
theorem dX3_tail_40 : decode cX3_tail 40 = .ok (.ireturn, 1) := by decide +kernel
theorem dX3_rings_0 : decode cX3_rings 0 = .ok (.iconst 0, 1) := by decide +kernel
theorem dX3_rings_1 : decode cX3_rings 1 = .ok (.istore_n 1, 1) := by decide +kernel
theorem dX3_rings_2 : decode cX3_rings 2 = .ok (.iconst 0, 1) := by decide +kernel
theorem dX3_rings_3 : decode cX3_rings 3 = .ok (.istore_n 2, 1) := by decide +kernel
theorem dX3_rings_4 : decode cX3_rings 4 = .ok (.iload_n 2, 1) := by decide +kernel
theorem dX3_rings_5 : decode cX3_rings 5 = .ok (.aload_n 0, 1) := by decide +kernel
theorem dX3_rings_6 : decode cX3_rings 6 = .ok (.getfield 13, 3) := by decide +kernel
theorem dX3_rings_9 : decode cX3_rings 9 = .ok (.iconst 0, 1) := by decide +kernel
theorem dX3_rings_10 : decode cX3_rings 10 = .ok (.iaload, 1) := by decide +kernel
theorem dX3_rings_11 : decode cX3_rings 11 = .ok (.if_icmp .ge 71, 3) := by decide +kernel
theorem dX3_rings_14 : decode cX3_rings 14 = .ok (.aload_n 0, 1) := by decide +kernel
theorem dX3_rings_15 : decode cX3_rings 15 = .ok (.iload_n 2, 1) := by decide +kernel
theorem dX3_rings_16 : decode cX3_rings 16 = .ok (.invokevirtual 161, 3) := by decide +kernel
theorem dX3_rings_19 : decode cX3_rings 19 = .ok (.istore_n 3, 1) := by decide +kernel
theorem dX3_rings_20 : decode cX3_rings 20 = .ok (.iconst 0, 1) := by decide +kernel
theorem dX3_rings_21 : decode cX3_rings 21 = .ok (.istore 4, 2) := by decide +kernel
theorem dX3_rings_23 : decode cX3_rings 23 = .ok (.iload 4, 2) := by decide +kernel
theorem dX3_rings_25 : decode cX3_rings 25 = .ok (.iload_n 2, 1) := by decide +kernel
theorem dX3_rings_26 : decode cX3_rings 26 = .ok (.if_icmp .ge 38, 3) := by decide +kernel
theorem dX3_rings_29 : decode cX3_rings 29 = .ok (.iload_n 3, 1) := by decide +kernel
theorem dX3_rings_30 : decode cX3_rings 30 = .ok (.ifCond .eq 26, 3) := by decide +kernel
theorem dX3_rings_33 : decode cX3_rings 33 = .ok (.aload_n 0, 1) := by decide +kernel
theorem dX3_rings_34 : decode cX3_rings 34 = .ok (.iload 4, 2) := by decide +kernel
theorem dX3_rings_36 : decode cX3_rings 36 = .ok (.invokevirtual 161, 3) := by decide +kernel
theorem dX3_rings_39 : decode cX3_rings 39 = .ok (.ifCond .eq 13, 3) := by decide +kernel
theorem dX3_rings_42 : decode cX3_rings 42 = .ok (.aload_n 0, 1) := by decide +kernel
theorem dX3_rings_43 : decode cX3_rings 43 = .ok (.iload 4, 2) := by decide +kernel
theorem dX3_rings_45 : decode cX3_rings 45 = .ok (.iload_n 2, 1) := by decide +kernel
theorem dX3_rings_46 : decode cX3_rings 46 = .ok (.invokevirtual 158, 3) := by decide +kernel
theorem dX3_rings_49 : decode cX3_rings 49 = .ok (.ifCond .ge 7, 3) := by decide +kernel
theorem dX3_rings_52 : decode cX3_rings 52 = .ok (.iconst 1, 1) := by decide +kernel
theorem dX3_rings_53 : decode cX3_rings 53 = .ok (.goto 4, 3) := by decide +kernel
theorem dX3_rings_56 : decode cX3_rings 56 = .ok (.iconst 0, 1) := by decide +kernel
theorem dX3_rings_57 : decode cX3_rings 57 = .ok (.istore_n 3, 1) := by decide +kernel
theorem dX3_rings_58 : decode cX3_rings 58 = .ok (.iinc 4 1, 3) := by decide +kernel
theorem dX3_rings_61 : decode cX3_rings 61 = .ok (.goto (-38), 3) := by decide +kernel
theorem dX3_rings_64 : decode cX3_rings 64 = .ok (.iload_n 1, 1) := by decide +kernel
theorem dX3_rings_65 : decode cX3_rings 65 = .ok (.iload_n 3, 1) := by decide +kernel
theorem dX3_rings_66 : decode cX3_rings 66 = .ok (.ifCond .eq 7, 3) := by decide +kernel
theorem dX3_rings_69 : decode cX3_rings 69 = .ok (.iconst 1, 1) := by decide +kernel
theorem dX3_rings_70 : decode cX3_rings 70 = .ok (.goto 4, 3) := by decide +kernel
theorem dX3_rings_73 : decode cX3_rings 73 = .ok (.iconst 0, 1) := by decide +kernel
theorem dX3_rings_74 : decode cX3_rings 74 = .ok (.iadd, 1) := by decide +kernel
theorem dX3_rings_75 : decode cX3_rings 75 = .ok (.istore_n 1, 1) := by decide +kernel
theorem dX3_rings_76 : decode cX3_rings 76 = .ok (.iinc 2 1, 3) := by decide +kernel
theorem dX3_rings_79 : decode cX3_rings 79 = .ok (.goto (-75), 3) := by decide +kernel
theorem dX3_rings_82 : decode cX3_rings 82 = .ok (.iload_n 1, 1) := by decide +kernel
theorem dX3_rings_83 : decode cX3_rings 83 = .ok (.ireturn, 1) := by decide +kernel
theorem dX3_never_0 : decode cX3_never 0 = .ok (.iconst 0, 1) := by decide +kernel
theorem dX3_never_1 : decode cX3_never 1 = .ok (.istore_n 1, 1) := by decide +kernel
theorem dX3_never_2 : decode cX3_never 2 = .ok (.iconst 0, 1) := by decide +kernel
theorem dX3_never_3 : decode cX3_never 3 = .ok (.istore_n 2, 1) := by decide +kernel
theorem dX3_never_4 : decode cX3_never 4 = .ok (.iload_n 2, 1) := by decide +kernel
theorem dX3_never_5 : decode cX3_never 5 = .ok (.aload_n 0, 1) := by decide +kernel
theorem dX3_never_6 : decode cX3_never 6 = .ok (.getfield 13, 3) := by decide +kernel
theorem dX3_never_9 : decode cX3_never 9 = .ok (.iconst 0, 1) := by decide +kernel
theorem dX3_never_10 : decode cX3_never 10 = .ok (.iaload, 1) := by decide +kernel
theorem dX3_never_11 : decode cX3_never 11 = .ok (.if_icmp .ge 27, 3) := by decide +kernel
theorem dX3_never_14 : decode cX3_never 14 = .ok (.iload_n 1, 1) := by decide +kernel
theorem dX3_never_15 : decode cX3_never 15 = .ok (.aload_n 0, 1) := by decide +kernel
theorem dX3_never_16 : decode cX3_never 16 = .ok (.iload_n 2, 1) := by decide +kernel
theorem dX3_never_17 : decode cX3_never 17 = .ok (.invokevirtual 145, 3) := by decide +kernel
theorem dX3_never_20 : decode cX3_never 20 = .ok (.ifCond .ne 9, 3) := by decide +kernel
theorem dX3_never_23 : decode cX3_never 23 = .ok (.iconst 1, 1) := by decide +kernel
theorem dX3_never_24 : decode cX3_never 24 = .ok (.iload_n 2, 1) := by decide +kernel
theorem dX3_never_25 : decode cX3_never 25 = .ok (.ishl, 1) := by decide +kernel
theorem dX3_never_26 : decode cX3_never 26 = .ok (.goto 4, 3) := by decide +kernel
theorem dX3_never_29 : decode cX3_never 29 = .ok (.iconst 0, 1) := by decide +kernel
theorem dX3_never_30 : decode cX3_never 30 = .ok (.ior, 1) := by decide +kernel
theorem dX3_never_31 : decode cX3_never 31 = .ok (.istore_n 1, 1) := by decide +kernel
theorem dX3_never_32 : decode cX3_never 32 = .ok (.iinc 2 1, 3) := by decide +kernel
theorem dX3_never_35 : decode cX3_never 35 = .ok (.goto (-31), 3) := by decide +kernel
theorem dX3_never_38 : decode cX3_never 38 = .ok (.iload_n 1, 1) := by decide +kernel
theorem dX3_never_39 : decode cX3_never 39 = .ok (.ireturn, 1) := by decide +kernel
theorem dX3_felt_0 : decode cX3_felt 0 = .ok (.aload_n 0, 1) := by decide +kernel
theorem dX3_felt_1 : decode cX3_felt 1 = .ok (.iload_n 1, 1) := by decide +kernel
theorem dX3_felt_2 : decode cX3_felt 2 = .ok (.invokevirtual 142, 3) := by decide +kernel
theorem dX3_felt_5 : decode cX3_felt 5 = .ok (.ifCond .eq 11, 3) := by decide +kernel
theorem dX3_felt_8 : decode cX3_felt 8 = .ok (.aload_n 0, 1) := by decide +kernel
theorem dX3_felt_9 : decode cX3_felt 9 = .ok (.iload_n 2, 1) := by decide +kernel
theorem dX3_felt_10 : decode cX3_felt 10 = .ok (.invokevirtual 142, 3) := by decide +kernel
theorem dX3_felt_13 : decode cX3_felt 13 = .ok (.ifCond .ne 9, 3) := by decide +kernel
theorem dX3_felt_16 : decode cX3_felt 16 = .ok (.aload_n 0, 1) := by decide +kernel
theorem dX3_felt_17 : decode cX3_felt 17 = .ok (.iconst (-1), 1) := by decide +kernel
theorem dX3_felt_18 : decode cX3_felt 18 = .ok (.invokevirtual 71, 3) := by decide +kernel
theorem dX3_felt_21 : decode cX3_felt 21 = .ok (.ireturn, 1) := by decide +kernel
theorem dX3_felt_22 : decode cX3_felt 22 = .ok (.aload_n 0, 1) := by decide +kernel
theorem dX3_felt_23 : decode cX3_felt 23 = .ok (.invokevirtual 152, 3) := by decide +kernel
theorem dX3_felt_26 : decode cX3_felt 26 = .ok (.iconst 1, 1) := by decide +kernel
theorem dX3_felt_27 : decode cX3_felt 27 = .ok (.istore_n 3, 1) := by decide +kernel
theorem dX3_felt_28 : decode cX3_felt 28 = .ok (.iload_n 3, 1) := by decide +kernel
theorem dX3_felt_29 : decode cX3_felt 29 = .ok (.bipush 40, 2) := by decide +kernel
theorem dX3_felt_31 : decode cX3_felt 31 = .ok (.if_icmp .gt 25, 3) := by decide +kernel
theorem dX3_felt_34 : decode cX3_felt 34 = .ok (.aload_n 0, 1) := by decide +kernel
theorem dX3_felt_35 : decode cX3_felt 35 = .ok (.invokevirtual 127, 3) := by decide +kernel
theorem dX3_felt_38 : decode cX3_felt 38 = .ok (.aload_n 0, 1) := by decide +kernel
theorem dX3_felt_39 : decode cX3_felt 39 = .ok (.getfield 44, 3) := by decide +kernel
theorem dX3_felt_42 : decode cX3_felt 42 = .ok (.iload_n 3, 1) := by decide +kernel
theorem dX3_felt_43 : decode cX3_felt 43 = .ok (.aload_n 0, 1) := by decide +kernel
theorem dX3_felt_44 : decode cX3_felt 44 = .ok (.iload_n 2, 1) := by decide +kernel
theorem dX3_felt_45 : decode cX3_felt 45 = .ok (.iconst 1, 1) := by decide +kernel
theorem dX3_felt_46 : decode cX3_felt 46 = .ok (.invokevirtual 109, 3) := by decide +kernel
theorem dX3_felt_49 : decode cX3_felt 49 = .ok (.iastore, 1) := by decide +kernel
theorem dX3_felt_50 : decode cX3_felt 50 = .ok (.iinc 3 1, 3) := by decide +kernel
theorem dX3_felt_53 : decode cX3_felt 53 = .ok (.goto (-25), 3) := by decide +kernel
theorem dX3_felt_56 : decode cX3_felt 56 = .ok (.aload_n 0, 1) := by decide +kernel
theorem dX3_felt_57 : decode cX3_felt 57 = .ok (.invokevirtual 139, 3) := by decide +kernel
theorem dX3_felt_60 : decode cX3_felt 60 = .ok (.aload_n 0, 1) := by decide +kernel
theorem dX3_felt_61 : decode cX3_felt 61 = .ok (.iload_n 1, 1) := by decide +kernel
theorem dX3_felt_62 : decode cX3_felt 62 = .ok (.putfield 25, 3) := by decide +kernel
theorem dX3_felt_65 : decode cX3_felt 65 = .ok (.bipush (-9), 2) := by decide +kernel
theorem dX3_felt_67 : decode cX3_felt 67 = .ok (.istore_n 3, 1) := by decide +kernel
theorem dX3_felt_68 : decode cX3_felt 68 = .ok (.iconst 1, 1) := by decide +kernel
theorem dX3_felt_69 : decode cX3_felt 69 = .ok (.istore 4, 2) := by decide +kernel
theorem dX3_felt_71 : decode cX3_felt 71 = .ok (.iload 4, 2) := by decide +kernel
theorem dX3_felt_73 : decode cX3_felt 73 = .ok (.bipush 40, 2) := by decide +kernel
theorem dX3_felt_75 : decode cX3_felt 75 = .ok (.if_icmp .gt 41, 3) := by decide +kernel
theorem dX3_felt_78 : decode cX3_felt 78 = .ok (.iload_n 3, 1) := by decide +kernel
theorem dX3_felt_79 : decode cX3_felt 79 = .ok (.ifCond .ge 37, 3) := by decide +kernel
theorem dX3_felt_82 : decode cX3_felt 82 = .ok (.aload_n 0, 1) := by decide +kernel
theorem dX3_felt_83 : decode cX3_felt 83 = .ok (.invokevirtual 127, 3) := by decide +kernel
theorem dX3_felt_86 : decode cX3_felt 86 = .ok (.aload_n 0, 1) := by decide +kernel
theorem dX3_felt_87 : decode cX3_felt 87 = .ok (.iload_n 2, 1) := by decide +kernel
theorem dX3_felt_88 : decode cX3_felt 88 = .ok (.iconst 1, 1) := by decide +kernel
theorem dX3_felt_89 : decode cX3_felt 89 = .ok (.invokevirtual 109, 3) := by decide +kernel
theorem dX3_felt_92 : decode cX3_felt 92 = .ok (.aload_n 0, 1) := by decide +kernel
theorem dX3_felt_93 : decode cX3_felt 93 = .ok (.getfield 44, 3) := by decide +kernel
theorem dX3_felt_96 : decode cX3_felt 96 = .ok (.iload 4, 2) := by decide +kernel
theorem dX3_felt_98 : decode cX3_felt 98 = .ok (.iaload, 1) := by decide +kernel
theorem dX3_felt_99 : decode cX3_felt 99 = .ok (.if_icmp .eq 8, 3) := by decide +kernel
theorem dX3_felt_102 : decode cX3_felt 102 = .ok (.iload 4, 2) := by decide +kernel
theorem dX3_felt_104 : decode cX3_felt 104 = .ok (.goto 5, 3) := by decide +kernel
theorem dX3_felt_107 : decode cX3_felt 107 = .ok (.bipush (-9), 2) := by decide +kernel
theorem dX3_felt_109 : decode cX3_felt 109 = .ok (.istore_n 3, 1) := by decide +kernel
theorem dX3_felt_110 : decode cX3_felt 110 = .ok (.iinc 4 1, 3) := by decide +kernel
theorem dX3_felt_113 : decode cX3_felt 113 = .ok (.goto (-42), 3) := by decide +kernel
theorem dX3_felt_116 : decode cX3_felt 116 = .ok (.aload_n 0, 1) := by decide +kernel
theorem dX3_felt_117 : decode cX3_felt 117 = .ok (.bipush (-9), 2) := by decide +kernel
theorem dX3_felt_119 : decode cX3_felt 119 = .ok (.putfield 25, 3) := by decide +kernel
theorem dX3_felt_122 : decode cX3_felt 122 = .ok (.aload_n 0, 1) := by decide +kernel
theorem dX3_felt_123 : decode cX3_felt 123 = .ok (.invokevirtual 139, 3) := by decide +kernel
theorem dX3_felt_126 : decode cX3_felt 126 = .ok (.iload_n 3, 1) := by decide +kernel
theorem dX3_felt_127 : decode cX3_felt 127 = .ok (.ireturn, 1) := by decide +kernel
theorem dX3_worth_0 : decode cX3_worth 0 = .ok (.aload_n 0, 1) := by decide +kernel
theorem dX3_worth_1 : decode cX3_worth 1 = .ok (.iload_n 1, 1) := by decide +kernel
theorem dX3_worth_2 : decode cX3_worth 2 = .ok (.invokevirtual 142, 3) := by decide +kernel
theorem dX3_worth_5 : decode cX3_worth 5 = .ok (.ifCond .eq 13, 3) := by decide +kernel
theorem dX3_worth_8 : decode cX3_worth 8 = .ok (.iload_n 2, 1) := by decide +kernel
theorem dX3_worth_9 : decode cX3_worth 9 = .ok (.iconst 0, 1) := by decide +kernel
theorem dX3_worth_10 : decode cX3_worth 10 = .ok (.bipush 60, 2) := by decide +kernel
theorem dX3_worth_12 : decode cX3_worth 12 = .ok (.invokestatic 64, 3) := by decide +kernel
theorem dX3_worth_15 : decode cX3_worth 15 = .ok (.goto 4, 3) := by decide +kernel
theorem dX3_worth_18 : decode cX3_worth 18 = .ok (.iconst (-1), 1) := by decide +kernel
theorem dX3_worth_19 : decode cX3_worth 19 = .ok (.istore_n 3, 1) := by decide +kernel
theorem dX3_worth_20 : decode cX3_worth 20 = .ok (.iload_n 3, 1) := by decide +kernel
theorem dX3_worth_21 : decode cX3_worth 21 = .ok (.ifCond .eq 12, 3) := by decide +kernel
theorem dX3_worth_24 : decode cX3_worth 24 = .ok (.ldc 164, 2) := by decide +kernel
theorem dX3_worth_26 : decode cX3_worth 26 = .ok (.aload_n 0, 1) := by decide +kernel
theorem dX3_worth_27 : decode cX3_worth 27 = .ok (.iload_n 3, 1) := by decide +kernel
theorem dX3_worth_28 : decode cX3_worth 28 = .ok (.invokevirtual 71, 3) := by decide +kernel
theorem dX3_worth_31 : decode cX3_worth 31 = .ok (.isub, 1) := by decide +kernel
theorem dX3_worth_32 : decode cX3_worth 32 = .ok (.ireturn, 1) := by decide +kernel
theorem dX3_worth_33 : decode cX3_worth 33 = .ok (.aload_n 0, 1) := by decide +kernel
theorem dX3_worth_34 : decode cX3_worth 34 = .ok (.invokevirtual 152, 3) := by decide +kernel
theorem dX3_worth_37 : decode cX3_worth 37 = .ok (.aload_n 0, 1) := by decide +kernel
theorem dX3_worth_38 : decode cX3_worth 38 = .ok (.iload_n 2, 1) := by decide +kernel
theorem dX3_worth_39 : decode cX3_worth 39 = .ok (.invokevirtual 165, 3) := by decide +kernel
theorem dX3_worth_42 : decode cX3_worth 42 = .ok (.istore 4, 2) := by decide +kernel
theorem dX3_worth_44 : decode cX3_worth 44 = .ok (.aload_n 0, 1) := by decide +kernel
theorem dX3_worth_45 : decode cX3_worth 45 = .ok (.iload_n 1, 1) := by decide +kernel
theorem dX3_worth_46 : decode cX3_worth 46 = .ok (.putfield 25, 3) := by decide +kernel
theorem dX3_worth_49 : decode cX3_worth 49 = .ok (.aload_n 0, 1) := by decide +kernel
theorem dX3_worth_50 : decode cX3_worth 50 = .ok (.iload_n 2, 1) := by decide +kernel
theorem dX3_worth_51 : decode cX3_worth 51 = .ok (.invokevirtual 165, 3) := by decide +kernel
theorem dX3_worth_54 : decode cX3_worth 54 = .ok (.istore 5, 2) := by decide +kernel
theorem dX3_worth_56 : decode cX3_worth 56 = .ok (.aload_n 0, 1) := by decide +kernel
theorem dX3_worth_57 : decode cX3_worth 57 = .ok (.bipush (-9), 2) := by decide +kernel
theorem dX3_worth_59 : decode cX3_worth 59 = .ok (.putfield 25, 3) := by decide +kernel
theorem dX3_worth_62 : decode cX3_worth 62 = .ok (.iload 5, 2) := by decide +kernel
theorem dX3_worth_64 : decode cX3_worth 64 = .ok (.iload 4, 2) := by decide +kernel
theorem dX3_worth_66 : decode cX3_worth 66 = .ok (.isub, 1) := by decide +kernel
theorem dX3_worth_67 : decode cX3_worth 67 = .ok (.ireturn, 1) := by decide +kernel
theorem dX3_maps_0 : decode cX3_maps 0 = .ok (.iload_n 1, 1) := by decide +kernel
theorem dX3_maps_1 : decode cX3_maps 1 = .ok (.aload_n 0, 1) := by decide +kernel
theorem dX3_maps_2 : decode cX3_maps 2 = .ok (.getfield 13, 3) := by decide +kernel
theorem dX3_maps_5 : decode cX3_maps 5 = .ok (.iconst 0, 1) := by decide +kernel
theorem dX3_maps_6 : decode cX3_maps 6 = .ok (.iaload, 1) := by decide +kernel
theorem dX3_maps_7 : decode cX3_maps 7 = .ok (.if_icmp .ne 92, 3) := by decide +kernel
theorem dX3_maps_10 : decode cX3_maps 10 = .ok (.iconst 0, 1) := by decide +kernel
theorem dX3_maps_11 : decode cX3_maps 11 = .ok (.istore 4, 2) := by decide +kernel
theorem dX3_maps_13 : decode cX3_maps 13 = .ok (.iload 4, 2) := by decide +kernel
theorem dX3_maps_15 : decode cX3_maps 15 = .ok (.iload_n 1, 1) := by decide +kernel
theorem dX3_maps_16 : decode cX3_maps 16 = .ok (.if_icmp .ge 23, 3) := by decide +kernel
theorem dX3_maps_19 : decode cX3_maps 19 = .ok (.aload_n 0, 1) := by decide +kernel
theorem dX3_maps_20 : decode cX3_maps 20 = .ok (.iload 4, 2) := by decide +kernel
theorem dX3_maps_22 : decode cX3_maps 22 = .ok (.iconst 5, 1) := by decide +kernel
theorem dX3_maps_23 : decode cX3_maps 23 = .ok (.aload_n 0, 1) := by decide +kernel
theorem dX3_maps_24 : decode cX3_maps 24 = .ok (.getfield 47, 3) := by decide +kernel
theorem dX3_maps_27 : decode cX3_maps 27 = .ok (.iload 4, 2) := by decide +kernel
theorem dX3_maps_29 : decode cX3_maps 29 = .ok (.iaload, 1) := by decide +kernel
theorem dX3_maps_30 : decode cX3_maps 30 = .ok (.invokevirtual 116, 3) := by decide +kernel
theorem dX3_maps_33 : decode cX3_maps 33 = .ok (.iinc 4 1, 3) := by decide +kernel
theorem dX3_maps_36 : decode cX3_maps 36 = .ok (.goto (-23), 3) := by decide +kernel
theorem dX3_maps_39 : decode cX3_maps 39 = .ok (.aload_n 0, 1) := by decide +kernel
theorem dX3_maps_40 : decode cX3_maps 40 = .ok (.iload_n 3, 1) := by decide +kernel
theorem dX3_maps_41 : decode cX3_maps 41 = .ok (.invokevirtual 165, 3) := by decide +kernel
theorem dX3_maps_44 : decode cX3_maps 44 = .ok (.istore 4, 2) := by decide +kernel
theorem dX3_maps_46 : decode cX3_maps 46 = .ok (.aload_n 0, 1) := by decide +kernel
theorem dX3_maps_47 : decode cX3_maps 47 = .ok (.getfield 168, 3) := by decide +kernel
theorem dX3_maps_50 : decode cX3_maps 50 = .ok (.ifCond .lt 13, 3) := by decide +kernel
theorem dX3_maps_53 : decode cX3_maps 53 = .ok (.iload 4, 2) := by decide +kernel
theorem dX3_maps_55 : decode cX3_maps 55 = .ok (.aload_n 0, 1) := by decide +kernel
theorem dX3_maps_56 : decode cX3_maps 56 = .ok (.getfield 168, 3) := by decide +kernel
theorem dX3_maps_59 : decode cX3_maps 59 = .ok (.if_icmp .lt 4, 3) := by decide +kernel
theorem dX3_maps_62 : decode cX3_maps 62 = .ok (.return_, 1) := by decide +kernel
theorem dX3_maps_63 : decode cX3_maps 63 = .ok (.aload_n 0, 1) := by decide +kernel
theorem dX3_maps_64 : decode cX3_maps 64 = .ok (.iload 4, 2) := by decide +kernel
theorem dX3_maps_66 : decode cX3_maps 66 = .ok (.putfield 168, 3) := by decide +kernel
theorem dX3_maps_69 : decode cX3_maps 69 = .ok (.iconst 0, 1) := by decide +kernel
theorem dX3_maps_70 : decode cX3_maps 70 = .ok (.istore 5, 2) := by decide +kernel
theorem dX3_maps_72 : decode cX3_maps 72 = .ok (.iload 5, 2) := by decide +kernel
theorem dX3_maps_74 : decode cX3_maps 74 = .ok (.iload_n 1, 1) := by decide +kernel
theorem dX3_maps_75 : decode cX3_maps 75 = .ok (.if_icmp .ge 23, 3) := by decide +kernel
theorem dX3_maps_78 : decode cX3_maps 78 = .ok (.aload_n 0, 1) := by decide +kernel
theorem dX3_maps_79 : decode cX3_maps 79 = .ok (.getfield 50, 3) := by decide +kernel
theorem dX3_maps_82 : decode cX3_maps 82 = .ok (.iload 5, 2) := by decide +kernel
theorem dX3_maps_84 : decode cX3_maps 84 = .ok (.aload_n 0, 1) := by decide +kernel
theorem dX3_maps_85 : decode cX3_maps 85 = .ok (.getfield 47, 3) := by decide +kernel
theorem dX3_maps_88 : decode cX3_maps 88 = .ok (.iload 5, 2) := by decide +kernel
theorem dX3_maps_90 : decode cX3_maps 90 = .ok (.iaload, 1) := by decide +kernel
theorem dX3_maps_91 : decode cX3_maps 91 = .ok (.iastore, 1) := by decide +kernel
theorem dX3_maps_92 : decode cX3_maps 92 = .ok (.iinc 5 1, 3) := by decide +kernel
theorem dX3_maps_95 : decode cX3_maps 95 = .ok (.goto (-23), 3) := by decide +kernel
theorem dX3_maps_98 : decode cX3_maps 98 = .ok (.return_, 1) := by decide +kernel
theorem dX3_maps_99 : decode cX3_maps 99 = .ok (.iconst 0, 1) := by decide +kernel
theorem dX3_maps_100 : decode cX3_maps 100 = .ok (.istore 4, 2) := by decide +kernel
theorem dX3_maps_102 : decode cX3_maps 102 = .ok (.iload 4, 2) := by decide +kernel
theorem dX3_maps_104 : decode cX3_maps 104 = .ok (.aload_n 0, 1) := by decide +kernel
theorem dX3_maps_105 : decode cX3_maps 105 = .ok (.getfield 13, 3) := by decide +kernel
theorem dX3_maps_108 : decode cX3_maps 108 = .ok (.iconst 0, 1) := by decide +kernel
theorem dX3_maps_109 : decode cX3_maps 109 = .ok (.iaload, 1) := by decide +kernel
theorem dX3_maps_110 : decode cX3_maps 110 = .ok (.if_icmp .ge 44, 3) := by decide +kernel
theorem dX3_maps_113 : decode cX3_maps 113 = .ok (.iload_n 2, 1) := by decide +kernel
theorem dX3_maps_114 : decode cX3_maps 114 = .ok (.iload 4, 2) := by decide +kernel
theorem dX3_maps_116 : decode cX3_maps 116 = .ok (.ishr, 1) := by decide +kernel
theorem dX3_maps_117 : decode cX3_maps 117 = .ok (.iconst 1, 1) := by decide +kernel
theorem dX3_maps_118 : decode cX3_maps 118 = .ok (.iand, 1) := by decide +kernel
theorem dX3_maps_119 : decode cX3_maps 119 = .ok (.iconst 1, 1) := by decide +kernel
theorem dX3_maps_120 : decode cX3_maps 120 = .ok (.if_icmp .ne 6, 3) := by decide +kernel
theorem dX3_maps_123 : decode cX3_maps 123 = .ok (.goto 25, 3) := by decide +kernel
theorem dX3_maps_126 : decode cX3_maps 126 = .ok (.aload_n 0, 1) := by decide +kernel
theorem dX3_maps_127 : decode cX3_maps 127 = .ok (.getfield 47, 3) := by decide +kernel
theorem dX3_maps_130 : decode cX3_maps 130 = .ok (.iload_n 1, 1) := by decide +kernel
theorem dX3_maps_131 : decode cX3_maps 131 = .ok (.iload 4, 2) := by decide +kernel
theorem dX3_maps_133 : decode cX3_maps 133 = .ok (.iastore, 1) := by decide +kernel
theorem dX3_maps_134 : decode cX3_maps 134 = .ok (.aload_n 0, 1) := by decide +kernel
theorem dX3_maps_135 : decode cX3_maps 135 = .ok (.iload_n 1, 1) := by decide +kernel
theorem dX3_maps_136 : decode cX3_maps 136 = .ok (.iconst 1, 1) := by decide +kernel
theorem dX3_maps_137 : decode cX3_maps 137 = .ok (.iadd, 1) := by decide +kernel
theorem dX3_maps_138 : decode cX3_maps 138 = .ok (.iload_n 2, 1) := by decide +kernel
theorem dX3_maps_139 : decode cX3_maps 139 = .ok (.iconst 1, 1) := by decide +kernel
theorem dX3_maps_140 : decode cX3_maps 140 = .ok (.iload 4, 2) := by decide +kernel
theorem dX3_maps_142 : decode cX3_maps 142 = .ok (.ishl, 1) := by decide +kernel
theorem dX3_maps_143 : decode cX3_maps 143 = .ok (.ior, 1) := by decide +kernel
theorem dX3_maps_144 : decode cX3_maps 144 = .ok (.iload_n 3, 1) := by decide +kernel
theorem dX3_maps_145 : decode cX3_maps 145 = .ok (.invokevirtual 171, 3) := by decide +kernel
theorem dX3_maps_148 : decode cX3_maps 148 = .ok (.iinc 4 1, 3) := by decide +kernel
theorem dX3_maps_151 : decode cX3_maps 151 = .ok (.goto (-49), 3) := by decide +kernel
theorem dX3_maps_154 : decode cX3_maps 154 = .ok (.return_, 1) := by decide +kernel
theorem dX3_bestMap_0 : decode cX3_bestMap 0 = .ok (.iload_n 2, 1) := by decide +kernel
theorem dX3_bestMap_1 : decode cX3_bestMap 1 = .ok (.iconst (-1), 1) := by decide +kernel
theorem dX3_bestMap_2 : decode cX3_bestMap 2 = .ok (.if_icmp .eq 11, 3) := by decide +kernel
theorem dX3_bestMap_5 : decode cX3_bestMap 5 = .ok (.aload_n 0, 1) := by decide +kernel
theorem dX3_bestMap_6 : decode cX3_bestMap 6 = .ok (.iload_n 2, 1) := by decide +kernel
theorem dX3_bestMap_7 : decode cX3_bestMap 7 = .ok (.invokevirtual 142, 3) := by decide +kernel
theorem dX3_bestMap_10 : decode cX3_bestMap 10 = .ok (.ifCond .eq 13, 3) := by decide +kernel
theorem dX3_bestMap_13 : decode cX3_bestMap 13 = .ok (.iload_n 1, 1) := by decide +kernel
theorem dX3_bestMap_14 : decode cX3_bestMap 14 = .ok (.iconst 1, 1) := by decide +kernel
theorem dX3_bestMap_15 : decode cX3_bestMap 15 = .ok (.bipush 30, 2) := by decide +kernel
theorem dX3_bestMap_17 : decode cX3_bestMap 17 = .ok (.invokestatic 64, 3) := by decide +kernel
theorem dX3_bestMap_20 : decode cX3_bestMap 20 = .ok (.goto 4, 3) := by decide +kernel
theorem dX3_bestMap_23 : decode cX3_bestMap 23 = .ok (.iconst (-1), 1) := by decide +kernel
theorem dX3_bestMap_24 : decode cX3_bestMap 24 = .ok (.istore_n 3, 1) := by decide +kernel
theorem dX3_bestMap_25 : decode cX3_bestMap 25 = .ok (.iload_n 3, 1) := by decide +kernel
theorem dX3_bestMap_26 : decode cX3_bestMap 26 = .ok (.ifCond .eq 9, 3) := by decide +kernel
theorem dX3_bestMap_29 : decode cX3_bestMap 29 = .ok (.aload_n 0, 1) := by decide +kernel
theorem dX3_bestMap_30 : decode cX3_bestMap 30 = .ok (.iload_n 3, 1) := by decide +kernel
theorem dX3_bestMap_31 : decode cX3_bestMap 31 = .ok (.invokevirtual 71, 3) := by decide +kernel
theorem dX3_bestMap_34 : decode cX3_bestMap 34 = .ok (.ireturn, 1) := by decide +kernel
theorem dX3_bestMap_35 : decode cX3_bestMap 35 = .ok (.aload_n 0, 1) := by decide +kernel
theorem dX3_bestMap_36 : decode cX3_bestMap 36 = .ok (.bipush (-9), 2) := by decide +kernel
theorem dX3_bestMap_38 : decode cX3_bestMap 38 = .ok (.putfield 168, 3) := by decide +kernel
theorem dX3_bestMap_41 : decode cX3_bestMap 41 = .ok (.aload_n 0, 1) := by decide +kernel
theorem dX3_bestMap_42 : decode cX3_bestMap 42 = .ok (.invokevirtual 152, 3) := by decide +kernel
theorem dX3_bestMap_45 : decode cX3_bestMap 45 = .ok (.aload_n 0, 1) := by decide +kernel
theorem dX3_bestMap_46 : decode cX3_bestMap 46 = .ok (.iconst 0, 1) := by decide +kernel
theorem dX3_bestMap_47 : decode cX3_bestMap 47 = .ok (.iconst 0, 1) := by decide +kernel
theorem dX3_bestMap_48 : decode cX3_bestMap 48 = .ok (.iload_n 1, 1) := by decide +kernel
theorem dX3_bestMap_49 : decode cX3_bestMap 49 = .ok (.invokevirtual 171, 3) := by decide +kernel
theorem dX3_bestMap_52 : decode cX3_bestMap 52 = .ok (.iload_n 2, 1) := by decide +kernel
theorem dX3_bestMap_53 : decode cX3_bestMap 53 = .ok (.ifCond .ge 10, 3) := by decide +kernel
theorem dX3_bestMap_56 : decode cX3_bestMap 56 = .ok (.aload_n 0, 1) := by decide +kernel
theorem dX3_bestMap_57 : decode cX3_bestMap 57 = .ok (.getfield 168, 3) := by decide +kernel
theorem dX3_bestMap_60 : decode cX3_bestMap 60 = .ok (.goto 9, 3) := by decide +kernel
theorem dX3_bestMap_63 : decode cX3_bestMap 63 = .ok (.aload_n 0, 1) := by decide +kernel
theorem dX3_bestMap_64 : decode cX3_bestMap 64 = .ok (.getfield 50, 3) := by decide +kernel
theorem dX3_bestMap_67 : decode cX3_bestMap 67 = .ok (.iload_n 2, 1) := by decide +kernel
theorem dX3_bestMap_68 : decode cX3_bestMap 68 = .ok (.iaload, 1) := by decide +kernel
theorem dX3_bestMap_69 : decode cX3_bestMap 69 = .ok (.ireturn, 1) := by decide +kernel
theorem dX3_change_0 : decode cX3_change 0 = .ok (.iload_n 1, 1) := by decide +kernel
theorem dX3_change_1 : decode cX3_change 1 = .ok (.iconst 1, 1) := by decide +kernel
theorem dX3_change_2 : decode cX3_change 2 = .ok (.bipush 30, 2) := by decide +kernel
theorem dX3_change_4 : decode cX3_change 4 = .ok (.invokestatic 64, 3) := by decide +kernel
theorem dX3_change_7 : decode cX3_change 7 = .ok (.istore_n 2, 1) := by decide +kernel
theorem dX3_change_8 : decode cX3_change 8 = .ok (.iload_n 2, 1) := by decide +kernel
theorem dX3_change_9 : decode cX3_change 9 = .ok (.ifCond .eq 9, 3) := by decide +kernel
theorem dX3_change_12 : decode cX3_change 12 = .ok (.aload_n 0, 1) := by decide +kernel
theorem dX3_change_13 : decode cX3_change 13 = .ok (.iload_n 2, 1) := by decide +kernel
theorem dX3_change_14 : decode cX3_change 14 = .ok (.invokevirtual 71, 3) := by decide +kernel
theorem dX3_change_17 : decode cX3_change 17 = .ok (.ireturn, 1) := by decide +kernel
theorem dX3_change_18 : decode cX3_change 18 = .ok (.aload_n 0, 1) := by decide +kernel
theorem dX3_change_19 : decode cX3_change 19 = .ok (.invokevirtual 152, 3) := by decide +kernel
theorem dX3_change_22 : decode cX3_change 22 = .ok (.aload_n 0, 1) := by decide +kernel
theorem dX3_change_23 : decode cX3_change 23 = .ok (.iload_n 1, 1) := by decide +kernel
theorem dX3_change_24 : decode cX3_change 24 = .ok (.invokevirtual 165, 3) := by decide +kernel
theorem dX3_change_27 : decode cX3_change 27 = .ok (.istore_n 3, 1) := by decide +kernel
theorem dX3_change_28 : decode cX3_change 28 = .ok (.bipush (-9), 2) := by decide +kernel
theorem dX3_change_30 : decode cX3_change 30 = .ok (.istore 4, 2) := by decide +kernel
theorem dX3_change_32 : decode cX3_change 32 = .ok (.iconst 0, 1) := by decide +kernel
theorem dX3_change_33 : decode cX3_change 33 = .ok (.istore 5, 2) := by decide +kernel
theorem dX3_change_35 : decode cX3_change 35 = .ok (.iload 5, 2) := by decide +kernel
theorem dX3_change_37 : decode cX3_change 37 = .ok (.aload_n 0, 1) := by decide +kernel
theorem dX3_change_38 : decode cX3_change 38 = .ok (.getfield 13, 3) := by decide +kernel
theorem dX3_change_41 : decode cX3_change 41 = .ok (.iconst 0, 1) := by decide +kernel
theorem dX3_change_42 : decode cX3_change 42 = .ok (.iaload, 1) := by decide +kernel
theorem dX3_change_43 : decode cX3_change 43 = .ok (.if_icmp .ge 67, 3) := by decide +kernel
theorem dX3_change_46 : decode cX3_change 46 = .ok (.iconst 0, 1) := by decide +kernel
theorem dX3_change_47 : decode cX3_change 47 = .ok (.istore 6, 2) := by decide +kernel
theorem dX3_change_49 : decode cX3_change 49 = .ok (.iload 6, 2) := by decide +kernel
theorem dX3_change_51 : decode cX3_change 51 = .ok (.aload_n 0, 1) := by decide +kernel
theorem dX3_change_52 : decode cX3_change 52 = .ok (.getfield 13, 3) := by decide +kernel
theorem dX3_change_55 : decode cX3_change 55 = .ok (.iconst 0, 1) := by decide +kernel
theorem dX3_change_56 : decode cX3_change 56 = .ok (.iaload, 1) := by decide +kernel
theorem dX3_change_57 : decode cX3_change 57 = .ok (.if_icmp .ge 47, 3) := by decide +kernel
theorem dX3_change_60 : decode cX3_change 60 = .ok (.aload_n 0, 1) := by decide +kernel
theorem dX3_change_61 : decode cX3_change 61 = .ok (.iload 5, 2) := by decide +kernel
theorem dX3_change_63 : decode cX3_change 63 = .ok (.iconst 5, 1) := by decide +kernel
theorem dX3_change_64 : decode cX3_change 64 = .ok (.iload 6, 2) := by decide +kernel
theorem dX3_change_66 : decode cX3_change 66 = .ok (.invokevirtual 116, 3) := by decide +kernel
theorem dX3_change_69 : decode cX3_change 69 = .ok (.aload_n 0, 1) := by decide +kernel
theorem dX3_change_70 : decode cX3_change 70 = .ok (.iload_n 1, 1) := by decide +kernel
theorem dX3_change_71 : decode cX3_change 71 = .ok (.invokevirtual 165, 3) := by decide +kernel
theorem dX3_change_74 : decode cX3_change 74 = .ok (.istore 7, 2) := by decide +kernel
theorem dX3_change_76 : decode cX3_change 76 = .ok (.iload 7, 2) := by decide +kernel
theorem dX3_change_78 : decode cX3_change 78 = .ok (.iload_n 3, 1) := by decide +kernel
theorem dX3_change_79 : decode cX3_change 79 = .ok (.if_icmp .lt 6, 3) := by decide +kernel
theorem dX3_change_82 : decode cX3_change 82 = .ok (.goto 16, 3) := by decide +kernel
theorem dX3_change_85 : decode cX3_change 85 = .ok (.iload 7, 2) := by decide +kernel
theorem dX3_change_87 : decode cX3_change 87 = .ok (.istore_n 3, 1) := by decide +kernel
theorem dX3_change_88 : decode cX3_change 88 = .ok (.bipush 10, 2) := by decide +kernel
theorem dX3_change_90 : decode cX3_change 90 = .ok (.iload 5, 2) := by decide +kernel
theorem dX3_change_92 : decode cX3_change 92 = .ok (.imul, 1) := by decide +kernel
theorem dX3_change_93 : decode cX3_change 93 = .ok (.iload 6, 2) := by decide +kernel
theorem dX3_change_95 : decode cX3_change 95 = .ok (.iadd, 1) := by decide +kernel
theorem dX3_change_96 : decode cX3_change 96 = .ok (.istore 4, 2) := by decide +kernel
theorem dX3_change_98 : decode cX3_change 98 = .ok (.iinc 6 1, 3) := by decide +kernel
theorem dX3_change_101 : decode cX3_change 101 = .ok (.goto (-52), 3) := by decide +kernel
theorem dX3_change_104 : decode cX3_change 104 = .ok (.iinc 5 1, 3) := by decide +kernel
theorem dX3_change_107 : decode cX3_change 107 = .ok (.goto (-72), 3) := by decide +kernel
theorem dX3_change_110 : decode cX3_change 110 = .ok (.iload 4, 2) := by decide +kernel
theorem dX3_change_112 : decode cX3_change 112 = .ok (.ireturn, 1) := by decide +kernel
theorem dX3_cure_0 : decode cX3_cure 0 = .ok (.aload_n 0, 1) := by decide +kernel
theorem dX3_cure_1 : decode cX3_cure 1 = .ok (.iload_n 1, 1) := by decide +kernel
theorem dX3_cure_2 : decode cX3_cure 2 = .ok (.invokevirtual 142, 3) := by decide +kernel
theorem dX3_cure_5 : decode cX3_cure 5 = .ok (.ifCond .eq 13, 3) := by decide +kernel
theorem dX3_cure_8 : decode cX3_cure 8 = .ok (.iload_n 2, 1) := by decide +kernel
theorem dX3_cure_9 : decode cX3_cure 9 = .ok (.iconst 1, 1) := by decide +kernel
theorem dX3_cure_10 : decode cX3_cure 10 = .ok (.bipush 30, 2) := by decide +kernel
theorem dX3_cure_12 : decode cX3_cure 12 = .ok (.invokestatic 64, 3) := by decide +kernel
theorem dX3_cure_15 : decode cX3_cure 15 = .ok (.goto 4, 3) := by decide +kernel
theorem dX3_cure_18 : decode cX3_cure 18 = .ok (.iconst (-1), 1) := by decide +kernel
theorem dX3_cure_19 : decode cX3_cure 19 = .ok (.istore_n 3, 1) := by decide +kernel
theorem dX3_cure_20 : decode cX3_cure 20 = .ok (.iload_n 3, 1) := by decide +kernel
theorem dX3_cure_21 : decode cX3_cure 21 = .ok (.ifCond .eq 9, 3) := by decide +kernel
theorem dX3_cure_24 : decode cX3_cure 24 = .ok (.aload_n 0, 1) := by decide +kernel
theorem dX3_cure_25 : decode cX3_cure 25 = .ok (.iload_n 3, 1) := by decide +kernel
theorem dX3_cure_26 : decode cX3_cure 26 = .ok (.invokevirtual 71, 3) := by decide +kernel
theorem dX3_cure_29 : decode cX3_cure 29 = .ok (.ireturn, 1) := by decide +kernel
theorem dX3_cure_30 : decode cX3_cure 30 = .ok (.aload_n 0, 1) := by decide +kernel
theorem dX3_cure_31 : decode cX3_cure 31 = .ok (.invokevirtual 152, 3) := by decide +kernel
theorem dX3_cure_34 : decode cX3_cure 34 = .ok (.bipush (-9), 2) := by decide +kernel
theorem dX3_cure_36 : decode cX3_cure 36 = .ok (.istore 4, 2) := by decide +kernel
theorem dX3_cure_38 : decode cX3_cure 38 = .ok (.iconst 0, 1) := by decide +kernel
theorem dX3_cure_39 : decode cX3_cure 39 = .ok (.istore 5, 2) := by decide +kernel
theorem dX3_cure_41 : decode cX3_cure 41 = .ok (.iconst 0, 1) := by decide +kernel
theorem dX3_cure_42 : decode cX3_cure 42 = .ok (.istore 6, 2) := by decide +kernel
theorem dX3_cure_44 : decode cX3_cure 44 = .ok (.iload 6, 2) := by decide +kernel
theorem dX3_cure_46 : decode cX3_cure 46 = .ok (.bipush 6, 2) := by decide +kernel
theorem dX3_cure_48 : decode cX3_cure 48 = .ok (.if_icmp .ge 47, 3) := by decide +kernel
theorem dX3_cure_51 : decode cX3_cure 51 = .ok (.aload_n 0, 1) := by decide +kernel
theorem dX3_cure_52 : decode cX3_cure 52 = .ok (.iload_n 1, 1) := by decide +kernel
theorem dX3_cure_53 : decode cX3_cure 53 = .ok (.iconst 0, 1) := by decide +kernel
theorem dX3_cure_54 : decode cX3_cure 54 = .ok (.iload 6, 2) := by decide +kernel
theorem dX3_cure_56 : decode cX3_cure 56 = .ok (.invokevirtual 116, 3) := by decide +kernel
theorem dX3_cure_59 : decode cX3_cure 59 = .ok (.aload_n 0, 1) := by decide +kernel
theorem dX3_cure_60 : decode cX3_cure 60 = .ok (.iload_n 2, 1) := by decide +kernel
theorem dX3_cure_61 : decode cX3_cure 61 = .ok (.invokevirtual 165, 3) := by decide +kernel
theorem dX3_cure_64 : decode cX3_cure 64 = .ok (.istore 7, 2) := by decide +kernel
theorem dX3_cure_66 : decode cX3_cure 66 = .ok (.iload 4, 2) := by decide +kernel
theorem dX3_cure_68 : decode cX3_cure 68 = .ok (.ifCond .lt 13, 3) := by decide +kernel
theorem dX3_cure_71 : decode cX3_cure 71 = .ok (.iload 7, 2) := by decide +kernel
theorem dX3_cure_73 : decode cX3_cure 73 = .ok (.iload 5, 2) := by decide +kernel
theorem dX3_cure_75 : decode cX3_cure 75 = .ok (.if_icmp .lt 6, 3) := by decide +kernel
theorem dX3_cure_78 : decode cX3_cure 78 = .ok (.goto 11, 3) := by decide +kernel
theorem dX3_cure_81 : decode cX3_cure 81 = .ok (.iload 6, 2) := by decide +kernel
theorem dX3_cure_83 : decode cX3_cure 83 = .ok (.istore 4, 2) := by decide +kernel
theorem dX3_cure_85 : decode cX3_cure 85 = .ok (.iload 7, 2) := by decide +kernel
theorem dX3_cure_87 : decode cX3_cure 87 = .ok (.istore 5, 2) := by decide +kernel
theorem dX3_cure_89 : decode cX3_cure 89 = .ok (.iinc 6 1, 3) := by decide +kernel
theorem dX3_cure_92 : decode cX3_cure 92 = .ok (.goto (-48), 3) := by decide +kernel
theorem dX3_cure_95 : decode cX3_cure 95 = .ok (.iload 4, 2) := by decide +kernel
theorem dX3_cure_97 : decode cX3_cure 97 = .ok (.ireturn, 1) := by decide +kernel
theorem dX3_putIn_0 : decode cX3_putIn 0 = .ok (.aload_n 0, 1) := by decide +kernel
theorem dX3_putIn_1 : decode cX3_putIn 1 = .ok (.iload_n 1, 1) := by decide +kernel
theorem dX3_putIn_2 : decode cX3_putIn 2 = .ok (.invokevirtual 142, 3) := by decide +kernel
theorem dX3_putIn_5 : decode cX3_putIn 5 = .ok (.ifCond .ne 7, 3) := by decide +kernel
theorem dX3_putIn_8 : decode cX3_putIn 8 = .ok (.iconst (-1), 1) := by decide +kernel
theorem dX3_putIn_9 : decode cX3_putIn 9 = .ok (.goto 45, 3) := by decide +kernel
theorem dX3_putIn_12 : decode cX3_putIn 12 = .ok (.iload_n 2, 1) := by decide +kernel
theorem dX3_putIn_13 : decode cX3_putIn 13 = .ok (.ifCond .lt 8, 3) := by decide +kernel
theorem dX3_putIn_16 : decode cX3_putIn 16 = .ok (.iload_n 3, 1) := by decide +kernel
theorem dX3_putIn_17 : decode cX3_putIn 17 = .ok (.iconst 1, 1) := by decide +kernel
theorem dX3_putIn_18 : decode cX3_putIn 18 = .ok (.if_icmp .ge 8, 3) := by decide +kernel
theorem dX3_putIn_21 : decode cX3_putIn 21 = .ok (.bipush (-4), 2) := by decide +kernel
theorem dX3_putIn_23 : decode cX3_putIn 23 = .ok (.goto 31, 3) := by decide +kernel
theorem dX3_putIn_26 : decode cX3_putIn 26 = .ok (.iload_n 2, 1) := by decide +kernel
theorem dX3_putIn_27 : decode cX3_putIn 27 = .ok (.iconst 4, 1) := by decide +kernel
theorem dX3_putIn_28 : decode cX3_putIn 28 = .ok (.if_icmp .gt 20, 3) := by decide +kernel
theorem dX3_putIn_31 : decode cX3_putIn 31 = .ok (.iload_n 3, 1) := by decide +kernel
theorem dX3_putIn_32 : decode cX3_putIn 32 = .ok (.bipush 30, 2) := by decide +kernel
theorem dX3_putIn_34 : decode cX3_putIn 34 = .ok (.if_icmp .gt 14, 3) := by decide +kernel
theorem dX3_putIn_37 : decode cX3_putIn 37 = .ok (.aload_n 0, 1) := by decide +kernel
theorem dX3_putIn_38 : decode cX3_putIn 38 = .ok (.getfield 13, 3) := by decide +kernel
theorem dX3_putIn_41 : decode cX3_putIn 41 = .ok (.iconst 0, 1) := by decide +kernel
theorem dX3_putIn_42 : decode cX3_putIn 42 = .ok (.iaload, 1) := by decide +kernel
theorem dX3_putIn_43 : decode cX3_putIn 43 = .ok (.bipush 6, 2) := by decide +kernel
theorem dX3_putIn_45 : decode cX3_putIn 45 = .ok (.if_icmp .ne 8, 3) := by decide +kernel
theorem dX3_putIn_48 : decode cX3_putIn 48 = .ok (.bipush (-6), 2) := by decide +kernel
theorem dX3_putIn_50 : decode cX3_putIn 50 = .ok (.goto 4, 3) := by decide +kernel
theorem dX3_putIn_53 : decode cX3_putIn 53 = .ok (.iconst 0, 1) := by decide +kernel
theorem dX3_putIn_54 : decode cX3_putIn 54 = .ok (.istore 4, 2) := by decide +kernel
theorem dX3_putIn_56 : decode cX3_putIn 56 = .ok (.iload 4, 2) := by decide +kernel
theorem dX3_putIn_58 : decode cX3_putIn 58 = .ok (.ifCond .eq 10, 3) := by decide +kernel
theorem dX3_putIn_61 : decode cX3_putIn 61 = .ok (.aload_n 0, 1) := by decide +kernel
theorem dX3_putIn_62 : decode cX3_putIn 62 = .ok (.iload 4, 2) := by decide +kernel
theorem dX3_putIn_64 : decode cX3_putIn 64 = .ok (.invokevirtual 71, 3) := by decide +kernel
theorem dX3_putIn_67 : decode cX3_putIn 67 = .ok (.ireturn, 1) := by decide +kernel
theorem dX3_putIn_68 : decode cX3_putIn 68 = .ok (.aload_n 0, 1) := by decide +kernel
theorem dX3_putIn_69 : decode cX3_putIn 69 = .ok (.invokevirtual 152, 3) := by decide +kernel
theorem dX3_putIn_72 : decode cX3_putIn 72 = .ok (.aload_n 0, 1) := by decide +kernel
theorem dX3_putIn_73 : decode cX3_putIn 73 = .ok (.getfield 13, 3) := by decide +kernel
theorem dX3_putIn_76 : decode cX3_putIn 76 = .ok (.iconst 0, 1) := by decide +kernel
theorem dX3_putIn_77 : decode cX3_putIn 77 = .ok (.iaload, 1) := by decide +kernel
theorem dX3_putIn_78 : decode cX3_putIn 78 = .ok (.istore 5, 2) := by decide +kernel
theorem dX3_putIn_80 : decode cX3_putIn 80 = .ok (.iconst 0, 1) := by decide +kernel
theorem dX3_putIn_81 : decode cX3_putIn 81 = .ok (.istore 6, 2) := by decide +kernel
theorem dX3_putIn_83 : decode cX3_putIn 83 = .ok (.iload 6, 2) := by decide +kernel
theorem dX3_putIn_85 : decode cX3_putIn 85 = .ok (.bipush 7, 2) := by decide +kernel
theorem dX3_putIn_87 : decode cX3_putIn 87 = .ok (.if_icmp .ge 18, 3) := by decide +kernel
theorem dX3_putIn_90 : decode cX3_putIn 90 = .ok (.aload_n 0, 1) := by decide +kernel
theorem dX3_putIn_91 : decode cX3_putIn 91 = .ok (.iload 5, 2) := by decide +kernel
theorem dX3_putIn_93 : decode cX3_putIn 93 = .ok (.iload 6, 2) := by decide +kernel
theorem dX3_putIn_95 : decode cX3_putIn 95 = .ok (.iconst 0, 1) := by decide +kernel
theorem dX3_putIn_96 : decode cX3_putIn 96 = .ok (.invokevirtual 116, 3) := by decide +kernel
theorem dX3_putIn_99 : decode cX3_putIn 99 = .ok (.iinc 6 1, 3) := by decide +kernel
theorem dX3_putIn_102 : decode cX3_putIn 102 = .ok (.goto (-19), 3) := by decide +kernel
theorem dX3_putIn_105 : decode cX3_putIn 105 = .ok (.aload_n 0, 1) := by decide +kernel
theorem dX3_putIn_106 : decode cX3_putIn 106 = .ok (.iload 5, 2) := by decide +kernel
theorem dX3_putIn_108 : decode cX3_putIn 108 = .ok (.iconst 3, 1) := by decide +kernel
theorem dX3_putIn_109 : decode cX3_putIn 109 = .ok (.iload_n 2, 1) := by decide +kernel
theorem dX3_putIn_110 : decode cX3_putIn 110 = .ok (.invokevirtual 116, 3) := by decide +kernel
theorem dX3_putIn_113 : decode cX3_putIn 113 = .ok (.aload_n 0, 1) := by decide +kernel
theorem dX3_putIn_114 : decode cX3_putIn 114 = .ok (.iload 5, 2) := by decide +kernel
theorem dX3_putIn_116 : decode cX3_putIn 116 = .ok (.iconst 5, 1) := by decide +kernel
theorem dX3_putIn_117 : decode cX3_putIn 117 = .ok (.aload_n 0, 1) := by decide +kernel
theorem dX3_putIn_118 : decode cX3_putIn 118 = .ok (.iload_n 1, 1) := by decide +kernel
theorem dX3_putIn_119 : decode cX3_putIn 119 = .ok (.iconst 5, 1) := by decide +kernel
theorem dX3_putIn_120 : decode cX3_putIn 120 = .ok (.invokevirtual 109, 3) := by decide +kernel
theorem dX3_putIn_123 : decode cX3_putIn 123 = .ok (.invokevirtual 116, 3) := by decide +kernel
theorem dX3_putIn_126 : decode cX3_putIn 126 = .ok (.aload_n 0, 1) := by decide +kernel
theorem dX3_putIn_127 : decode cX3_putIn 127 = .ok (.iload_n 1, 1) := by decide +kernel
theorem dX3_putIn_128 : decode cX3_putIn 128 = .ok (.iconst 5, 1) := by decide +kernel
theorem dX3_putIn_129 : decode cX3_putIn 129 = .ok (.iload 5, 2) := by decide +kernel
theorem dX3_putIn_131 : decode cX3_putIn 131 = .ok (.invokevirtual 116, 3) := by decide +kernel
theorem dX3_putIn_134 : decode cX3_putIn 134 = .ok (.aload_n 0, 1) := by decide +kernel
theorem dX3_putIn_135 : decode cX3_putIn 135 = .ok (.getfield 13, 3) := by decide +kernel
theorem dX3_putIn_138 : decode cX3_putIn 138 = .ok (.iconst 0, 1) := by decide +kernel
theorem dX3_putIn_139 : decode cX3_putIn 139 = .ok (.dup2, 1) := by decide +kernel
theorem dX3_putIn_140 : decode cX3_putIn 140 = .ok (.iaload, 1) := by decide +kernel
theorem dX3_putIn_141 : decode cX3_putIn 141 = .ok (.iconst 1, 1) := by decide +kernel
theorem dX3_putIn_142 : decode cX3_putIn 142 = .ok (.iadd, 1) := by decide +kernel
theorem dX3_putIn_143 : decode cX3_putIn 143 = .ok (.iastore, 1) := by decide +kernel
theorem dX3_putIn_144 : decode cX3_putIn 144 = .ok (.aload_n 0, 1) := by decide +kernel
theorem dX3_putIn_145 : decode cX3_putIn 145 = .ok (.iload_n 3, 1) := by decide +kernel
theorem dX3_putIn_146 : decode cX3_putIn 146 = .ok (.invokevirtual 133, 3) := by decide +kernel
theorem dX3_putIn_149 : decode cX3_putIn 149 = .ok (.aload_n 0, 1) := by decide +kernel
theorem dX3_putIn_150 : decode cX3_putIn 150 = .ok (.iload 5, 2) := by decide +kernel
theorem dX3_putIn_152 : decode cX3_putIn 152 = .ok (.invokevirtual 130, 3) := by decide +kernel
theorem dX3_putIn_155 : decode cX3_putIn 155 = .ok (.istore 6, 2) := by decide +kernel
theorem dX3_putIn_157 : decode cX3_putIn 157 = .ok (.aload_n 0, 1) := by decide +kernel
theorem dX3_putIn_158 : decode cX3_putIn 158 = .ok (.invokevirtual 139, 3) := by decide +kernel
theorem dX3_putIn_161 : decode cX3_putIn 161 = .ok (.iload 6, 2) := by decide +kernel
theorem dX3_putIn_163 : decode cX3_putIn 163 = .ok (.ireturn, 1) := by decide +kernel
theorem dX3_takeOut_0 : decode cX3_takeOut 0 = .ok (.aload_n 0, 1) := by decide +kernel
theorem dX3_takeOut_1 : decode cX3_takeOut 1 = .ok (.iload_n 1, 1) := by decide +kernel
theorem dX3_takeOut_2 : decode cX3_takeOut 2 = .ok (.invokevirtual 142, 3) := by decide +kernel
theorem dX3_takeOut_5 : decode cX3_takeOut 5 = .ok (.ifCond .eq 13, 3) := by decide +kernel
theorem dX3_takeOut_8 : decode cX3_takeOut 8 = .ok (.iload_n 2, 1) := by decide +kernel
theorem dX3_takeOut_9 : decode cX3_takeOut 9 = .ok (.iconst 1, 1) := by decide +kernel
theorem dX3_takeOut_10 : decode cX3_takeOut 10 = .ok (.bipush 30, 2) := by decide +kernel
theorem dX3_takeOut_12 : decode cX3_takeOut 12 = .ok (.invokestatic 64, 3) := by decide +kernel
theorem dX3_takeOut_15 : decode cX3_takeOut 15 = .ok (.goto 4, 3) := by decide +kernel
theorem dX3_takeOut_18 : decode cX3_takeOut 18 = .ok (.iconst (-1), 1) := by decide +kernel
theorem dX3_takeOut_19 : decode cX3_takeOut 19 = .ok (.istore_n 3, 1) := by decide +kernel
theorem dX3_takeOut_20 : decode cX3_takeOut 20 = .ok (.iload_n 3, 1) := by decide +kernel
theorem dX3_takeOut_21 : decode cX3_takeOut 21 = .ok (.ifCond .eq 9, 3) := by decide +kernel
theorem dX3_takeOut_24 : decode cX3_takeOut 24 = .ok (.aload_n 0, 1) := by decide +kernel
theorem dX3_takeOut_25 : decode cX3_takeOut 25 = .ok (.iload_n 3, 1) := by decide +kernel
theorem dX3_takeOut_26 : decode cX3_takeOut 26 = .ok (.invokevirtual 71, 3) := by decide +kernel
theorem dX3_takeOut_29 : decode cX3_takeOut 29 = .ok (.ireturn, 1) := by decide +kernel
theorem dX3_takeOut_30 : decode cX3_takeOut 30 = .ok (.aload_n 0, 1) := by decide +kernel
theorem dX3_takeOut_31 : decode cX3_takeOut 31 = .ok (.invokevirtual 152, 3) := by decide +kernel
theorem dX3_takeOut_34 : decode cX3_takeOut 34 = .ok (.aload_n 0, 1) := by decide +kernel
theorem dX3_takeOut_35 : decode cX3_takeOut 35 = .ok (.iload_n 1, 1) := by decide +kernel
theorem dX3_takeOut_36 : decode cX3_takeOut 36 = .ok (.iconst 5, 1) := by decide +kernel
theorem dX3_takeOut_37 : decode cX3_takeOut 37 = .ok (.invokevirtual 109, 3) := by decide +kernel
theorem dX3_takeOut_40 : decode cX3_takeOut 40 = .ok (.istore 4, 2) := by decide +kernel
theorem dX3_takeOut_42 : decode cX3_takeOut 42 = .ok (.iconst 0, 1) := by decide +kernel
theorem dX3_takeOut_43 : decode cX3_takeOut 43 = .ok (.istore 5, 2) := by decide +kernel
theorem dX3_takeOut_45 : decode cX3_takeOut 45 = .ok (.iload 5, 2) := by decide +kernel
theorem dX3_takeOut_47 : decode cX3_takeOut 47 = .ok (.aload_n 0, 1) := by decide +kernel
theorem dX3_takeOut_48 : decode cX3_takeOut 48 = .ok (.getfield 13, 3) := by decide +kernel
theorem dX3_takeOut_51 : decode cX3_takeOut 51 = .ok (.iconst 0, 1) := by decide +kernel
theorem dX3_takeOut_52 : decode cX3_takeOut 52 = .ok (.iaload, 1) := by decide +kernel
theorem dX3_takeOut_53 : decode cX3_takeOut 53 = .ok (.if_icmp .ge 35, 3) := by decide +kernel
theorem dX3_takeOut_56 : decode cX3_takeOut 56 = .ok (.iload 5, 2) := by decide +kernel
theorem dX3_takeOut_58 : decode cX3_takeOut 58 = .ok (.iload_n 1, 1) := by decide +kernel
theorem dX3_takeOut_59 : decode cX3_takeOut 59 = .ok (.if_icmp .eq 23, 3) := by decide +kernel
theorem dX3_takeOut_62 : decode cX3_takeOut 62 = .ok (.aload_n 0, 1) := by decide +kernel
theorem dX3_takeOut_63 : decode cX3_takeOut 63 = .ok (.iload 5, 2) := by decide +kernel
theorem dX3_takeOut_65 : decode cX3_takeOut 65 = .ok (.iconst 5, 1) := by decide +kernel
theorem dX3_takeOut_66 : decode cX3_takeOut 66 = .ok (.invokevirtual 109, 3) := by decide +kernel
theorem dX3_takeOut_69 : decode cX3_takeOut 69 = .ok (.iload_n 1, 1) := by decide +kernel
theorem dX3_takeOut_70 : decode cX3_takeOut 70 = .ok (.if_icmp .ne 12, 3) := by decide +kernel
theorem dX3_takeOut_73 : decode cX3_takeOut 73 = .ok (.aload_n 0, 1) := by decide +kernel
theorem dX3_takeOut_74 : decode cX3_takeOut 74 = .ok (.iload 5, 2) := by decide +kernel
theorem dX3_takeOut_76 : decode cX3_takeOut 76 = .ok (.iconst 5, 1) := by decide +kernel
theorem dX3_takeOut_77 : decode cX3_takeOut 77 = .ok (.iload 4, 2) := by decide +kernel
theorem dX3_takeOut_79 : decode cX3_takeOut 79 = .ok (.invokevirtual 116, 3) := by decide +kernel
theorem dX3_takeOut_82 : decode cX3_takeOut 82 = .ok (.iinc 5 1, 3) := by decide +kernel
theorem dX3_takeOut_85 : decode cX3_takeOut 85 = .ok (.goto (-40), 3) := by decide +kernel
theorem dX3_takeOut_88 : decode cX3_takeOut 88 = .ok (.aload_n 0, 1) := by decide +kernel
theorem dX3_takeOut_89 : decode cX3_takeOut 89 = .ok (.iload_n 1, 1) := by decide +kernel
theorem dX3_takeOut_90 : decode cX3_takeOut 90 = .ok (.putfield 29, 3) := by decide +kernel
theorem dX3_takeOut_93 : decode cX3_takeOut 93 = .ok (.aload_n 0, 1) := by decide +kernel
theorem dX3_takeOut_94 : decode cX3_takeOut 94 = .ok (.iload_n 2, 1) := by decide +kernel
theorem dX3_takeOut_95 : decode cX3_takeOut 95 = .ok (.invokevirtual 133, 3) := by decide +kernel
theorem dX3_takeOut_98 : decode cX3_takeOut 98 = .ok (.aload_n 0, 1) := by decide +kernel
theorem dX3_takeOut_99 : decode cX3_takeOut 99 = .ok (.bipush (-9), 2) := by decide +kernel
theorem dX3_takeOut_101 : decode cX3_takeOut 101 = .ok (.putfield 29, 3) := by decide +kernel
theorem dX3_takeOut_104 : decode cX3_takeOut 104 = .ok (.aload_n 0, 1) := by decide +kernel
theorem dX3_takeOut_105 : decode cX3_takeOut 105 = .ok (.invokevirtual 136, 3) := by decide +kernel
theorem dX3_takeOut_108 : decode cX3_takeOut 108 = .ok (.aload_n 0, 1) := by decide +kernel
theorem dX3_takeOut_109 : decode cX3_takeOut 109 = .ok (.iload_n 1, 1) := by decide +kernel
theorem dX3_takeOut_110 : decode cX3_takeOut 110 = .ok (.iconst 1, 1) := by decide +kernel
theorem dX3_takeOut_111 : decode cX3_takeOut 111 = .ok (.invokevirtual 109, 3) := by decide +kernel
theorem dX3_takeOut_114 : decode cX3_takeOut 114 = .ok (.isub, 1) := by decide +kernel
theorem dX3_takeOut_115 : decode cX3_takeOut 115 = .ok (.istore 5, 2) := by decide +kernel
theorem dX3_takeOut_117 : decode cX3_takeOut 117 = .ok (.aload_n 0, 1) := by decide +kernel
theorem dX3_takeOut_118 : decode cX3_takeOut 118 = .ok (.invokevirtual 139, 3) := by decide +kernel
theorem dX3_takeOut_121 : decode cX3_takeOut 121 = .ok (.iload 5, 2) := by decide +kernel
theorem dX3_takeOut_123 : decode cX3_takeOut 123 = .ok (.ireturn, 1) := by decide +kernel
theorem dX3_row_0 : decode cX3_row 0 = .ok (.iload_n 1, 1) := by decide +kernel
theorem dX3_row_1 : decode cX3_row 1 = .ok (.iconst 0, 1) := by decide +kernel
theorem dX3_row_2 : decode cX3_row 2 = .ok (.bipush 9, 2) := by decide +kernel
theorem dX3_row_4 : decode cX3_row 4 = .ok (.invokestatic 64, 3) := by decide +kernel
theorem dX3_row_7 : decode cX3_row 7 = .ok (.istore_n 2, 1) := by decide +kernel
theorem dX3_row_8 : decode cX3_row 8 = .ok (.iload_n 2, 1) := by decide +kernel
theorem dX3_row_9 : decode cX3_row 9 = .ok (.ifCond .ne 15, 3) := by decide +kernel
theorem dX3_row_12 : decode cX3_row 12 = .ok (.aload_n 0, 1) := by decide +kernel
theorem dX3_row_13 : decode cX3_row 13 = .ok (.getfield 174, 3) := by decide +kernel
theorem dX3_row_16 : decode cX3_row 16 = .ok (.bipush 6, 2) := by decide +kernel
theorem dX3_row_18 : decode cX3_row 18 = .ok (.if_icmp .ne 6, 3) := by decide +kernel
theorem dX3_row_21 : decode cX3_row 21 = .ok (.bipush (-6), 2) := by decide +kernel
theorem dX3_row_23 : decode cX3_row 23 = .ok (.istore_n 2, 1) := by decide +kernel
theorem dX3_row_24 : decode cX3_row 24 = .ok (.iload_n 2, 1) := by decide +kernel
theorem dX3_row_25 : decode cX3_row 25 = .ok (.ifCond .eq 9, 3) := by decide +kernel
theorem dX3_row_28 : decode cX3_row 28 = .ok (.aload_n 0, 1) := by decide +kernel
theorem dX3_row_29 : decode cX3_row 29 = .ok (.iload_n 2, 1) := by decide +kernel
theorem dX3_row_30 : decode cX3_row 30 = .ok (.invokevirtual 71, 3) := by decide +kernel
theorem dX3_row_33 : decode cX3_row 33 = .ok (.ireturn, 1) := by decide +kernel
theorem dX3_row_34 : decode cX3_row 34 = .ok (.aload_n 0, 1) := by decide +kernel
theorem dX3_row_35 : decode cX3_row 35 = .ok (.getfield 53, 3) := by decide +kernel
theorem dX3_row_38 : decode cX3_row 38 = .ok (.aload_n 0, 1) := by decide +kernel
theorem dX3_row_39 : decode cX3_row 39 = .ok (.getfield 174, 3) := by decide +kernel
theorem dX3_row_42 : decode cX3_row 42 = .ok (.iload_n 1, 1) := by decide +kernel
theorem dX3_row_43 : decode cX3_row 43 = .ok (.iastore, 1) := by decide +kernel
theorem dX3_row_44 : decode cX3_row 44 = .ok (.aload_n 0, 1) := by decide +kernel
theorem dX3_row_45 : decode cX3_row 45 = .ok (.dup, 1) := by decide +kernel
theorem dX3_row_46 : decode cX3_row 46 = .ok (.getfield 174, 3) := by decide +kernel
theorem dX3_row_49 : decode cX3_row 49 = .ok (.iconst 1, 1) := by decide +kernel
theorem dX3_row_50 : decode cX3_row 50 = .ok (.iadd, 1) := by decide +kernel
theorem dX3_row_51 : decode cX3_row 51 = .ok (.putfield 174, 3) := by decide +kernel
theorem dX3_row_54 : decode cX3_row 54 = .ok (.aload_n 0, 1) := by decide +kernel
theorem dX3_row_55 : decode cX3_row 55 = .ok (.getfield 174, 3) := by decide +kernel
theorem dX3_row_58 : decode cX3_row 58 = .ok (.ireturn, 1) := by decide +kernel
theorem dX3_isAsTold_0 : decode cX3_isAsTold 0 = .ok (.iconst 0, 1) := by decide +kernel
theorem dX3_isAsTold_1 : decode cX3_isAsTold 1 = .ok (.istore_n 1, 1) := by decide +kernel
theorem dX3_isAsTold_2 : decode cX3_isAsTold 2 = .ok (.iload_n 1, 1) := by decide +kernel
theorem dX3_isAsTold_3 : decode cX3_isAsTold 3 = .ok (.aload_n 0, 1) := by decide +kernel
theorem dX3_isAsTold_4 : decode cX3_isAsTold 4 = .ok (.getfield 174, 3) := by decide +kernel
theorem dX3_isAsTold_7 : decode cX3_isAsTold 7 = .ok (.if_icmp .ge 26, 3) := by decide +kernel
theorem dX3_isAsTold_10 : decode cX3_isAsTold 10 = .ok (.aload_n 0, 1) := by decide +kernel
theorem dX3_isAsTold_11 : decode cX3_isAsTold 11 = .ok (.getfield 53, 3) := by decide +kernel
theorem dX3_isAsTold_14 : decode cX3_isAsTold 14 = .ok (.iload_n 1, 1) := by decide +kernel
theorem dX3_isAsTold_15 : decode cX3_isAsTold 15 = .ok (.iaload, 1) := by decide +kernel
theorem dX3_isAsTold_16 : decode cX3_isAsTold 16 = .ok (.aload_n 0, 1) := by decide +kernel
theorem dX3_isAsTold_17 : decode cX3_isAsTold 17 = .ok (.iload_n 1, 1) := by decide +kernel
theorem dX3_isAsTold_18 : decode cX3_isAsTold 18 = .ok (.iconst 1, 1) := by decide +kernel
theorem dX3_isAsTold_19 : decode cX3_isAsTold 19 = .ok (.invokevirtual 109, 3) := by decide +kernel
theorem dX3_isAsTold_22 : decode cX3_isAsTold 22 = .ok (.if_icmp .eq 5, 3) := by decide +kernel
theorem dX3_isAsTold_25 : decode cX3_isAsTold 25 = .ok (.iconst 0, 1) := by decide +kernel
theorem dX3_isAsTold_26 : decode cX3_isAsTold 26 = .ok (.ireturn, 1) := by decide +kernel
theorem dX3_isAsTold_27 : decode cX3_isAsTold 27 = .ok (.iinc 1 1, 3) := by decide +kernel
theorem dX3_isAsTold_30 : decode cX3_isAsTold 30 = .ok (.goto (-28), 3) := by decide +kernel
theorem dX3_isAsTold_33 : decode cX3_isAsTold 33 = .ok (.iconst 1, 1) := by decide +kernel
theorem dX3_isAsTold_34 : decode cX3_isAsTold 34 = .ok (.ireturn, 1) := by decide +kernel
theorem dX3_fitting_0 : decode cX3_fitting 0 = .ok (.aload_n 0, 1) := by decide +kernel
theorem dX3_fitting_1 : decode cX3_fitting 1 = .ok (.iload_n 1, 1) := by decide +kernel
theorem dX3_fitting_2 : decode cX3_fitting 2 = .ok (.invokevirtual 142, 3) := by decide +kernel
theorem dX3_fitting_5 : decode cX3_fitting 5 = .ok (.ifCond .eq 13, 3) := by decide +kernel
theorem dX3_fitting_8 : decode cX3_fitting 8 = .ok (.iload_n 2, 1) := by decide +kernel
theorem dX3_fitting_9 : decode cX3_fitting 9 = .ok (.iconst 1, 1) := by decide +kernel
theorem dX3_fitting_10 : decode cX3_fitting 10 = .ok (.bipush 30, 2) := by decide +kernel
theorem dX3_fitting_12 : decode cX3_fitting 12 = .ok (.invokestatic 64, 3) := by decide +kernel
theorem dX3_fitting_15 : decode cX3_fitting 15 = .ok (.goto 4, 3) := by decide +kernel
theorem dX3_fitting_18 : decode cX3_fitting 18 = .ok (.iconst (-1), 1) := by decide +kernel
theorem dX3_fitting_19 : decode cX3_fitting 19 = .ok (.istore_n 3, 1) := by decide +kernel
theorem dX3_fitting_20 : decode cX3_fitting 20 = .ok (.iload_n 3, 1) := by decide +kernel
theorem dX3_fitting_21 : decode cX3_fitting 21 = .ok (.ifCond .ne 19, 3) := by decide +kernel
theorem dX3_fitting_24 : decode cX3_fitting 24 = .ok (.aload_n 0, 1) := by decide +kernel
theorem dX3_fitting_25 : decode cX3_fitting 25 = .ok (.getfield 174, 3) := by decide +kernel
theorem dX3_fitting_28 : decode cX3_fitting 28 = .ok (.aload_n 0, 1) := by decide +kernel
theorem dX3_fitting_29 : decode cX3_fitting 29 = .ok (.getfield 13, 3) := by decide +kernel
theorem dX3_fitting_32 : decode cX3_fitting 32 = .ok (.iconst 0, 1) := by decide +kernel
theorem dX3_fitting_33 : decode cX3_fitting 33 = .ok (.iaload, 1) := by decide +kernel
theorem dX3_fitting_34 : decode cX3_fitting 34 = .ok (.if_icmp .eq 6, 3) := by decide +kernel
theorem dX3_fitting_37 : decode cX3_fitting 37 = .ok (.bipush (-3), 2) := by decide +kernel
theorem dX3_fitting_39 : decode cX3_fitting 39 = .ok (.istore_n 3, 1) := by decide +kernel
theorem dX3_fitting_40 : decode cX3_fitting 40 = .ok (.iload_n 3, 1) := by decide +kernel
theorem dX3_fitting_41 : decode cX3_fitting 41 = .ok (.ifCond .eq 9, 3) := by decide +kernel
theorem dX3_fitting_44 : decode cX3_fitting 44 = .ok (.aload_n 0, 1) := by decide +kernel
theorem dX3_fitting_45 : decode cX3_fitting 45 = .ok (.iload_n 3, 1) := by decide +kernel
theorem dX3_fitting_46 : decode cX3_fitting 46 = .ok (.invokevirtual 71, 3) := by decide +kernel
theorem dX3_fitting_49 : decode cX3_fitting 49 = .ok (.ireturn, 1) := by decide +kernel
theorem dX3_fitting_50 : decode cX3_fitting 50 = .ok (.aload_n 0, 1) := by decide +kernel
theorem dX3_fitting_51 : decode cX3_fitting 51 = .ok (.invokevirtual 152, 3) := by decide +kernel
theorem dX3_fitting_54 : decode cX3_fitting 54 = .ok (.iconst 0, 1) := by decide +kernel
theorem dX3_fitting_55 : decode cX3_fitting 55 = .ok (.istore 4, 2) := by decide +kernel
theorem dX3_fitting_57 : decode cX3_fitting 57 = .ok (.iconst 0, 1) := by decide +kernel
theorem dX3_fitting_58 : decode cX3_fitting 58 = .ok (.istore 5, 2) := by decide +kernel
theorem dX3_fitting_60 : decode cX3_fitting 60 = .ok (.iload 5, 2) := by decide +kernel
theorem dX3_fitting_62 : decode cX3_fitting 62 = .ok (.bipush 6, 2) := by decide +kernel
theorem dX3_fitting_64 : decode cX3_fitting 64 = .ok (.if_icmp .ge 46, 3) := by decide +kernel
theorem dX3_fitting_67 : decode cX3_fitting 67 = .ok (.aload_n 0, 1) := by decide +kernel
theorem dX3_fitting_68 : decode cX3_fitting 68 = .ok (.iload_n 1, 1) := by decide +kernel
theorem dX3_fitting_69 : decode cX3_fitting 69 = .ok (.iconst 0, 1) := by decide +kernel
theorem dX3_fitting_70 : decode cX3_fitting 70 = .ok (.iload 5, 2) := by decide +kernel
theorem dX3_fitting_72 : decode cX3_fitting 72 = .ok (.invokevirtual 116, 3) := by decide +kernel
theorem dX3_fitting_75 : decode cX3_fitting 75 = .ok (.aload_n 0, 1) := by decide +kernel
theorem dX3_fitting_76 : decode cX3_fitting 76 = .ok (.iload_n 2, 1) := by decide +kernel
theorem dX3_fitting_77 : decode cX3_fitting 77 = .ok (.invokevirtual 133, 3) := by decide +kernel
theorem dX3_fitting_80 : decode cX3_fitting 80 = .ok (.iload 4, 2) := by decide +kernel
theorem dX3_fitting_82 : decode cX3_fitting 82 = .ok (.aload_n 0, 1) := by decide +kernel
theorem dX3_fitting_83 : decode cX3_fitting 83 = .ok (.invokevirtual 177, 3) := by decide +kernel
theorem dX3_fitting_86 : decode cX3_fitting 86 = .ok (.ifCond .eq 10, 3) := by decide +kernel
theorem dX3_fitting_89 : decode cX3_fitting 89 = .ok (.iconst 1, 1) := by decide +kernel
theorem dX3_fitting_90 : decode cX3_fitting 90 = .ok (.iload 5, 2) := by decide +kernel
theorem dX3_fitting_92 : decode cX3_fitting 92 = .ok (.ishl, 1) := by decide +kernel
theorem dX3_fitting_93 : decode cX3_fitting 93 = .ok (.goto 4, 3) := by decide +kernel
theorem dX3_fitting_96 : decode cX3_fitting 96 = .ok (.iconst 0, 1) := by decide +kernel
theorem dX3_fitting_97 : decode cX3_fitting 97 = .ok (.ior, 1) := by decide +kernel
theorem dX3_fitting_98 : decode cX3_fitting 98 = .ok (.istore 4, 2) := by decide +kernel
theorem dX3_fitting_100 : decode cX3_fitting 100 = .ok (.aload_n 0, 1) := by decide +kernel
theorem dX3_fitting_101 : decode cX3_fitting 101 = .ok (.invokevirtual 139, 3) := by decide +kernel
theorem dX3_fitting_104 : decode cX3_fitting 104 = .ok (.iinc 5 1, 3) := by decide +kernel
theorem dX3_fitting_107 : decode cX3_fitting 107 = .ok (.goto (-47), 3) := by decide +kernel
theorem dX3_fitting_110 : decode cX3_fitting 110 = .ok (.iload 4, 2) := by decide +kernel
theorem dX3_fitting_112 : decode cX3_fitting 112 = .ok (.ireturn, 1) := by decide +kernel
theorem dX3_judge_0 : decode cX3_judge 0 = .ok (.aload_n 0, 1) := by decide +kernel
theorem dX3_judge_1 : decode cX3_judge 1 = .ok (.getfield 174, 3) := by decide +kernel
theorem dX3_judge_4 : decode cX3_judge 4 = .ok (.istore_n 1, 1) := by decide +kernel
theorem dX3_judge_5 : decode cX3_judge 5 = .ok (.aload_n 0, 1) := by decide +kernel
theorem dX3_judge_6 : decode cX3_judge 6 = .ok (.iconst 0, 1) := by decide +kernel
theorem dX3_judge_7 : decode cX3_judge 7 = .ok (.putfield 174, 3) := by decide +kernel
theorem dX3_judge_10 : decode cX3_judge 10 = .ok (.iconst 0, 1) := by decide +kernel
theorem dX3_judge_11 : decode cX3_judge 11 = .ok (.istore_n 2, 1) := by decide +kernel
theorem dX3_judge_12 : decode cX3_judge 12 = .ok (.iload_n 2, 1) := by decide +kernel
theorem dX3_judge_13 : decode cX3_judge 13 = .ok (.iload_n 1, 1) := by decide +kernel
theorem dX3_judge_14 : decode cX3_judge 14 = .ok (.if_icmp .ge 36, 3) := by decide +kernel
theorem dX3_judge_17 : decode cX3_judge 17 = .ok (.iload_n 2, 1) := by decide +kernel
theorem dX3_judge_18 : decode cX3_judge 18 = .ok (.aload_n 0, 1) := by decide +kernel
theorem dX3_judge_19 : decode cX3_judge 19 = .ok (.getfield 13, 3) := by decide +kernel
theorem dX3_judge_22 : decode cX3_judge 22 = .ok (.iconst 0, 1) := by decide +kernel
theorem dX3_judge_23 : decode cX3_judge 23 = .ok (.iaload, 1) := by decide +kernel
theorem dX3_judge_24 : decode cX3_judge 24 = .ok (.if_icmp .eq 18, 3) := by decide +kernel
theorem dX3_judge_27 : decode cX3_judge 27 = .ok (.aload_n 0, 1) := by decide +kernel
theorem dX3_judge_28 : decode cX3_judge 28 = .ok (.getfield 53, 3) := by decide +kernel
theorem dX3_judge_31 : decode cX3_judge 31 = .ok (.iload_n 2, 1) := by decide +kernel
theorem dX3_judge_32 : decode cX3_judge 32 = .ok (.iaload, 1) := by decide +kernel
theorem dX3_judge_33 : decode cX3_judge 33 = .ok (.aload_n 0, 1) := by decide +kernel
theorem dX3_judge_34 : decode cX3_judge 34 = .ok (.iload_n 2, 1) := by decide +kernel
theorem dX3_judge_35 : decode cX3_judge 35 = .ok (.iconst 1, 1) := by decide +kernel
theorem dX3_judge_36 : decode cX3_judge 36 = .ok (.invokevirtual 109, 3) := by decide +kernel
theorem dX3_judge_39 : decode cX3_judge 39 = .ok (.if_icmp .eq 5, 3) := by decide +kernel
theorem dX3_judge_42 : decode cX3_judge 42 = .ok (.iload_n 2, 1) := by decide +kernel
theorem dX3_judge_43 : decode cX3_judge 43 = .ok (.ireturn, 1) := by decide +kernel
theorem dX3_judge_44 : decode cX3_judge 44 = .ok (.iinc 2 1, 3) := by decide +kernel
theorem dX3_judge_47 : decode cX3_judge 47 = .ok (.goto (-35), 3) := by decide +kernel
theorem dX3_judge_50 : decode cX3_judge 50 = .ok (.iload_n 1, 1) := by decide +kernel
theorem dX3_judge_51 : decode cX3_judge 51 = .ok (.aload_n 0, 1) := by decide +kernel
theorem dX3_judge_52 : decode cX3_judge 52 = .ok (.getfield 13, 3) := by decide +kernel
theorem dX3_judge_55 : decode cX3_judge 55 = .ok (.iconst 0, 1) := by decide +kernel
theorem dX3_judge_56 : decode cX3_judge 56 = .ok (.iaload, 1) := by decide +kernel
theorem dX3_judge_57 : decode cX3_judge 57 = .ok (.if_icmp .ge 7, 3) := by decide +kernel
theorem dX3_judge_60 : decode cX3_judge 60 = .ok (.iload_n 1, 1) := by decide +kernel
theorem dX3_judge_61 : decode cX3_judge 61 = .ok (.goto 5, 3) := by decide +kernel
theorem dX3_judge_64 : decode cX3_judge 64 = .ok (.bipush (-9), 2) := by decide +kernel
theorem dX3_judge_66 : decode cX3_judge 66 = .ok (.ireturn, 1) := by decide +kernel
theorem dX3_seeds_0 : decode cX3_seeds 0 = .ok (.iload_n 1, 1) := by decide +kernel
theorem dX3_seeds_1 : decode cX3_seeds 1 = .ok (.iconst 1, 1) := by decide +kernel
theorem dX3_seeds_2 : decode cX3_seeds 2 = .ok (.bipush 30, 2) := by decide +kernel
theorem dX3_seeds_4 : decode cX3_seeds 4 = .ok (.invokestatic 64, 3) := by decide +kernel
theorem dX3_seeds_7 : decode cX3_seeds 7 = .ok (.istore_n 3, 1) := by decide +kernel
theorem dX3_seeds_8 : decode cX3_seeds 8 = .ok (.iload_n 3, 1) := by decide +kernel
theorem dX3_seeds_9 : decode cX3_seeds 9 = .ok (.ifCond .eq 9, 3) := by decide +kernel
theorem dX3_seeds_12 : decode cX3_seeds 12 = .ok (.aload_n 0, 1) := by decide +kernel
theorem dX3_seeds_13 : decode cX3_seeds 13 = .ok (.iload_n 3, 1) := by decide +kernel
theorem dX3_seeds_14 : decode cX3_seeds 14 = .ok (.invokevirtual 71, 3) := by decide +kernel
theorem dX3_seeds_17 : decode cX3_seeds 17 = .ok (.ireturn, 1) := by decide +kernel
theorem dX3_seeds_18 : decode cX3_seeds 18 = .ok (.aload_n 0, 1) := by decide +kernel
theorem dX3_seeds_19 : decode cX3_seeds 19 = .ok (.invokevirtual 152, 3) := by decide +kernel
theorem dX3_seeds_22 : decode cX3_seeds 22 = .ok (.iload_n 2, 1) := by decide +kernel
theorem dX3_seeds_23 : decode cX3_seeds 23 = .ok (.istore 4, 2) := by decide +kernel
theorem dX3_seeds_25 : decode cX3_seeds 25 = .ok (.iconst 0, 1) := by decide +kernel
theorem dX3_seeds_26 : decode cX3_seeds 26 = .ok (.istore 5, 2) := by decide +kernel
theorem dX3_seeds_28 : decode cX3_seeds 28 = .ok (.iload 5, 2) := by decide +kernel
theorem dX3_seeds_30 : decode cX3_seeds 30 = .ok (.iload_n 1, 1) := by decide +kernel
theorem dX3_seeds_31 : decode cX3_seeds 31 = .ok (.if_icmp .ge 61, 3) := by decide +kernel
theorem dX3_seeds_34 : decode cX3_seeds 34 = .ok (.iconst 0, 1) := by decide +kernel
theorem dX3_seeds_35 : decode cX3_seeds 35 = .ok (.istore 6, 2) := by decide +kernel
theorem dX3_seeds_37 : decode cX3_seeds 37 = .ok (.iload 6, 2) := by decide +kernel
theorem dX3_seeds_39 : decode cX3_seeds 39 = .ok (.aload_n 0, 1) := by decide +kernel
theorem dX3_seeds_40 : decode cX3_seeds 40 = .ok (.getfield 13, 3) := by decide +kernel
theorem dX3_seeds_43 : decode cX3_seeds 43 = .ok (.iconst 0, 1) := by decide +kernel
theorem dX3_seeds_44 : decode cX3_seeds 44 = .ok (.iaload, 1) := by decide +kernel
theorem dX3_seeds_45 : decode cX3_seeds 45 = .ok (.if_icmp .ge 37, 3) := by decide +kernel
theorem dX3_seeds_48 : decode cX3_seeds 48 = .ok (.iload 4, 2) := by decide +kernel
theorem dX3_seeds_50 : decode cX3_seeds 50 = .ok (.ldc 180, 2) := by decide +kernel
theorem dX3_seeds_52 : decode cX3_seeds 52 = .ok (.imul, 1) := by decide +kernel
theorem dX3_seeds_53 : decode cX3_seeds 53 = .ok (.ldc 181, 2) := by decide +kernel
theorem dX3_seeds_55 : decode cX3_seeds 55 = .ok (.iadd, 1) := by decide +kernel
theorem dX3_seeds_56 : decode cX3_seeds 56 = .ok (.istore 4, 2) := by decide +kernel
theorem dX3_seeds_58 : decode cX3_seeds 58 = .ok (.aload_n 0, 1) := by decide +kernel
theorem dX3_seeds_59 : decode cX3_seeds 59 = .ok (.iload 6, 2) := by decide +kernel
theorem dX3_seeds_61 : decode cX3_seeds 61 = .ok (.iconst 2, 1) := by decide +kernel
theorem dX3_seeds_62 : decode cX3_seeds 62 = .ok (.iload 4, 2) := by decide +kernel
theorem dX3_seeds_64 : decode cX3_seeds 64 = .ok (.ldc 182, 2) := by decide +kernel
theorem dX3_seeds_66 : decode cX3_seeds 66 = .ok (.iand, 1) := by decide +kernel
theorem dX3_seeds_67 : decode cX3_seeds 67 = .ok (.sipush 256, 3) := by decide +kernel
theorem dX3_seeds_70 : decode cX3_seeds 70 = .ok (.idiv, 1) := by decide +kernel
theorem dX3_seeds_71 : decode cX3_seeds 71 = .ok (.iconst 4, 1) := by decide +kernel
theorem dX3_seeds_72 : decode cX3_seeds 72 = .ok (.irem, 1) := by decide +kernel
theorem dX3_seeds_73 : decode cX3_seeds 73 = .ok (.invokevirtual 116, 3) := by decide +kernel
theorem dX3_seeds_76 : decode cX3_seeds 76 = .ok (.iinc 6 1, 3) := by decide +kernel
theorem dX3_seeds_79 : decode cX3_seeds 79 = .ok (.goto (-42), 3) := by decide +kernel
theorem dX3_seeds_82 : decode cX3_seeds 82 = .ok (.aload_n 0, 1) := by decide +kernel
theorem dX3_seeds_83 : decode cX3_seeds 83 = .ok (.invokevirtual 127, 3) := by decide +kernel
theorem dX3_seeds_86 : decode cX3_seeds 86 = .ok (.iinc 5 1, 3) := by decide +kernel
theorem dX3_seeds_89 : decode cX3_seeds 89 = .ok (.goto (-61), 3) := by decide +kernel
theorem dX3_seeds_92 : decode cX3_seeds 92 = .ok (.aload_n 0, 1) := by decide +kernel
theorem dX3_seeds_93 : decode cX3_seeds 93 = .ok (.invokevirtual 136, 3) := by decide +kernel
theorem dX3_seeds_96 : decode cX3_seeds 96 = .ok (.istore 5, 2) := by decide +kernel
theorem dX3_seeds_98 : decode cX3_seeds 98 = .ok (.aload_n 0, 1) := by decide +kernel
theorem dX3_seeds_99 : decode cX3_seeds 99 = .ok (.invokevirtual 139, 3) := by decide +kernel
theorem dX3_seeds_102 : decode cX3_seeds 102 = .ok (.iload 5, 2) := by decide +kernel
theorem dX3_seeds_104 : decode cX3_seeds 104 = .ok (.ireturn, 1) := by decide +kernel
theorem dX3_image_0 : decode cX3_image 0 = .ok (.aload_n 0, 1) := by decide +kernel
theorem dX3_image_1 : decode cX3_image 1 = .ok (.getfield 13, 3) := by decide +kernel
theorem dX3_image_4 : decode cX3_image 4 = .ok (.aload_n 0, 1) := by decide +kernel
theorem dX3_image_5 : decode cX3_image 5 = .ok (.getfield 16, 3) := by decide +kernel
theorem dX3_image_8 : decode cX3_image 8 = .ok (.invokestatic 56, 3) := by decide +kernel
theorem dX3_image_11 : decode cX3_image 11 = .ok (.aload_n 0, 1) := by decide +kernel
theorem dX3_image_12 : decode cX3_image 12 = .ok (.iconst 1, 1) := by decide +kernel
theorem dX3_image_13 : decode cX3_image 13 = .ok (.putfield 183, 3) := by decide +kernel
theorem dX3_image_16 : decode cX3_image 16 = .ok (.aload_n 0, 1) := by decide +kernel
theorem dX3_image_17 : decode cX3_image 17 = .ok (.getfield 13, 3) := by decide +kernel
theorem dX3_image_20 : decode cX3_image 20 = .ok (.iconst 1, 1) := by decide +kernel
theorem dX3_image_21 : decode cX3_image 21 = .ok (.iaload, 1) := by decide +kernel
theorem dX3_image_22 : decode cX3_image 22 = .ok (.ireturn, 1) := by decide +kernel
theorem dX3_on_0 : decode cX3_on 0 = .ok (.aload_n 0, 1) := by decide +kernel
theorem dX3_on_1 : decode cX3_on 1 = .ok (.getfield 183, 3) := by decide +kernel
theorem dX3_on_4 : decode cX3_on 4 = .ok (.ifCond .ne 10, 3) := by decide +kernel
theorem dX3_on_7 : decode cX3_on 7 = .ok (.aload_n 0, 1) := by decide +kernel
theorem dX3_on_8 : decode cX3_on 8 = .ok (.bipush (-3), 2) := by decide +kernel
theorem dX3_on_10 : decode cX3_on 10 = .ok (.invokevirtual 71, 3) := by decide +kernel
theorem dX3_on_13 : decode cX3_on 13 = .ok (.ireturn, 1) := by decide +kernel
theorem dX3_on_14 : decode cX3_on 14 = .ok (.aload_n 0, 1) := by decide +kernel
theorem dX3_on_15 : decode cX3_on 15 = .ok (.getfield 16, 3) := by decide +kernel
theorem dX3_on_18 : decode cX3_on 18 = .ok (.aload_n 0, 1) := by decide +kernel
theorem dX3_on_19 : decode cX3_on 19 = .ok (.getfield 13, 3) := by decide +kernel
theorem dX3_on_22 : decode cX3_on 22 = .ok (.invokestatic 56, 3) := by decide +kernel
theorem dX3_on_25 : decode cX3_on 25 = .ok (.aload_n 0, 1) := by decide +kernel
theorem dX3_on_26 : decode cX3_on 26 = .ok (.getfield 13, 3) := by decide +kernel
theorem dX3_on_29 : decode cX3_on 29 = .ok (.iconst 1, 1) := by decide +kernel
theorem dX3_on_30 : decode cX3_on 30 = .ok (.iaload, 1) := by decide +kernel
theorem dX3_on_31 : decode cX3_on 31 = .ok (.ireturn, 1) := by decide +kernel
theorem dX3_count_0 : decode cX3_count 0 = .ok (.iload_n 1, 1) := by decide +kernel
theorem dX3_count_1 : decode cX3_count 1 = .ok (.bipush 10, 2) := by decide +kernel
theorem dX3_count_3 : decode cX3_count 3 = .ok (.if_icmp .le 19, 3) := by decide +kernel
theorem dX3_count_6 : decode cX3_count 6 = .ok (.iload_n 1, 1) := by decide +kernel
theorem dX3_count_7 : decode cX3_count 7 = .ok (.bipush 17, 2) := by decide +kernel
theorem dX3_count_9 : decode cX3_count 9 = .ok (.if_icmp .ge 13, 3) := by decide +kernel
theorem dX3_count_12 : decode cX3_count 12 = .ok (.aload_n 0, 1) := by decide +kernel
theorem dX3_count_13 : decode cX3_count 13 = .ok (.getfield 7, 3) := by decide +kernel
theorem dX3_count_16 : decode cX3_count 16 = .ok (.iload_n 1, 1) := by decide +kernel
theorem dX3_count_17 : decode cX3_count 17 = .ok (.bipush 10, 2) := by decide +kernel
theorem dX3_count_19 : decode cX3_count 19 = .ok (.isub, 1) := by decide +kernel
theorem dX3_count_20 : decode cX3_count 20 = .ok (.iaload, 1) := by decide +kernel
theorem dX3_count_21 : decode cX3_count 21 = .ok (.ireturn, 1) := by decide +kernel
theorem dX3_count_22 : decode cX3_count 22 = .ok (.iconst 0, 1) := by decide +kernel
theorem dX3_count_23 : decode cX3_count 23 = .ok (.istore_n 2, 1) := by decide +kernel
theorem dX3_count_24 : decode cX3_count 24 = .ok (.iload_n 1, 1) := by decide +kernel
theorem dX3_count_25 : decode cX3_count 25 = .ok (.tableswitch 90 0 5 #[39, 39, 46, 51, 80, 85], 39) := by decide +kernel
theorem dX3_count_64 : decode cX3_count 64 = .ok (.aload_n 0, 1) := by decide +kernel
theorem dX3_count_65 : decode cX3_count 65 = .ok (.getfield 13, 3) := by decide +kernel
theorem dX3_count_68 : decode cX3_count 68 = .ok (.iload_n 1, 1) := by decide +kernel
theorem dX3_count_69 : decode cX3_count 69 = .ok (.iaload, 1) := by decide +kernel
theorem dX3_count_70 : decode cX3_count 70 = .ok (.ireturn, 1) := by decide +kernel
theorem dX3_count_71 : decode cX3_count 71 = .ok (.aload_n 0, 1) := by decide +kernel
theorem dX3_count_72 : decode cX3_count 72 = .ok (.invokevirtual 136, 3) := by decide +kernel
theorem dX3_count_75 : decode cX3_count 75 = .ok (.ireturn, 1) := by decide +kernel
theorem dX3_count_76 : decode cX3_count 76 = .ok (.iconst 0, 1) := by decide +kernel
theorem dX3_count_77 : decode cX3_count 77 = .ok (.istore_n 3, 1) := by decide +kernel
theorem dX3_count_78 : decode cX3_count 78 = .ok (.iload_n 3, 1) := by decide +kernel
theorem dX3_count_79 : decode cX3_count 79 = .ok (.aload_n 0, 1) := by decide +kernel
theorem dX3_count_80 : decode cX3_count 80 = .ok (.getfield 13, 3) := by decide +kernel
theorem dX3_count_83 : decode cX3_count 83 = .ok (.iconst 0, 1) := by decide +kernel
theorem dX3_count_84 : decode cX3_count 84 = .ok (.iaload, 1) := by decide +kernel
theorem dX3_count_85 : decode cX3_count 85 = .ok (.if_icmp .ge 18, 3) := by decide +kernel
theorem dX3_count_88 : decode cX3_count 88 = .ok (.iload_n 2, 1) := by decide +kernel
theorem dX3_count_89 : decode cX3_count 89 = .ok (.aload_n 0, 1) := by decide +kernel
theorem dX3_count_90 : decode cX3_count 90 = .ok (.iload_n 3, 1) := by decide +kernel
theorem dX3_count_91 : decode cX3_count 91 = .ok (.iconst 4, 1) := by decide +kernel
theorem dX3_count_92 : decode cX3_count 92 = .ok (.invokevirtual 109, 3) := by decide +kernel
theorem dX3_count_95 : decode cX3_count 95 = .ok (.iadd, 1) := by decide +kernel
theorem dX3_count_96 : decode cX3_count 96 = .ok (.istore_n 2, 1) := by decide +kernel
theorem dX3_count_97 : decode cX3_count 97 = .ok (.iinc 3 1, 3) := by decide +kernel
theorem dX3_count_100 : decode cX3_count 100 = .ok (.goto (-22), 3) := by decide +kernel
theorem dX3_count_103 : decode cX3_count 103 = .ok (.iload_n 2, 1) := by decide +kernel
theorem dX3_count_104 : decode cX3_count 104 = .ok (.ireturn, 1) := by decide +kernel
theorem dX3_count_105 : decode cX3_count 105 = .ok (.aload_n 0, 1) := by decide +kernel
theorem dX3_count_106 : decode cX3_count 106 = .ok (.getfield 174, 3) := by decide +kernel
theorem dX3_count_109 : decode cX3_count 109 = .ok (.ireturn, 1) := by decide +kernel
theorem dX3_count_110 : decode cX3_count 110 = .ok (.aload_n 0, 1) := by decide +kernel
theorem dX3_count_111 : decode cX3_count 111 = .ok (.getfield 68, 3) := by decide +kernel
theorem dX3_count_114 : decode cX3_count 114 = .ok (.ireturn, 1) := by decide +kernel
theorem dX3_count_115 : decode cX3_count 115 = .ok (.bipush (-9), 2) := by decide +kernel
theorem dX3_count_117 : decode cX3_count 117 = .ok (.ireturn, 1) := by decide +kernel
