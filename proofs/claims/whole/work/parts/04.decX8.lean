theorem dX8_init_0 : decode cX8_init 0 = .ok (.aload_n 0, 1) := by decide +kernel
theorem dX8_init_1 : decode cX8_init 1 = .ok (.invokespecial 3, 3) := by decide +kernel
theorem dX8_init_4 : decode cX8_init 4 = .ok (.aload_n 0, 1) := by decide +kernel
theorem dX8_init_5 : decode cX8_init 5 = .ok (.sipush 524, 3) := by decide +kernel
theorem dX8_init_8 : decode cX8_init 8 = .ok (.newarray .int, 2) := by decide +kernel
theorem dX8_init_10 : decode cX8_init 10 = .ok (.putfield 9, 3) := by decide +kernel
theorem dX8_init_13 : decode cX8_init 13 = .ok (.aload_n 0, 1) := by decide +kernel
theorem dX8_init_14 : decode cX8_init 14 = .ok (.sipush 524, 3) := by decide +kernel
theorem dX8_init_17 : decode cX8_init 17 = .ok (.newarray .int, 2) := by decide +kernel
theorem dX8_init_19 : decode cX8_init 19 = .ok (.putfield 13, 3) := by decide +kernel
theorem dX8_init_22 : decode cX8_init 22 = .ok (.aload_n 0, 1) := by decide +kernel
theorem dX8_init_23 : decode cX8_init 23 = .ok (.sipush 524, 3) := by decide +kernel
theorem dX8_init_26 : decode cX8_init 26 = .ok (.newarray .int, 2) := by decide +kernel
theorem dX8_init_28 : decode cX8_init 28 = .ok (.putfield 16, 3) := by decide +kernel
theorem dX8_init_31 : decode cX8_init 31 = .ok (.aload_n 0, 1) := by decide +kernel
theorem dX8_init_32 : decode cX8_init 32 = .ok (.bipush 7, 2) := by decide +kernel
theorem dX8_init_34 : decode cX8_init 34 = .ok (.newarray .int, 2) := by decide +kernel
theorem dX8_init_36 : decode cX8_init 36 = .ok (.putfield 19, 3) := by decide +kernel
theorem dX8_init_39 : decode cX8_init 39 = .ok (.aload_n 0, 1) := by decide +kernel
theorem dX8_init_40 : decode cX8_init 40 = .ok (.iconst 4, 1) := by decide +kernel
theorem dX8_init_41 : decode cX8_init 41 = .ok (.newarray .int, 2) := by decide +kernel
theorem dX8_init_43 : decode cX8_init 43 = .ok (.putfield 22, 3) := by decide +kernel
theorem dX8_init_46 : decode cX8_init 46 = .ok (.aload_n 0, 1) := by decide +kernel
theorem dX8_init_47 : decode cX8_init 47 = .ok (.iconst 4, 1) := by decide +kernel
theorem dX8_init_48 : decode cX8_init 48 = .ok (.newarray .int, 2) := by decide +kernel
theorem dX8_init_50 : decode cX8_init 50 = .ok (.putfield 25, 3) := by decide +kernel
theorem dX8_init_53 : decode cX8_init 53 = .ok (.aload_n 0, 1) := by decide +kernel
theorem dX8_init_54 : decode cX8_init 54 = .ok (.bipush 96, 2) := by decide +kernel
theorem dX8_init_56 : decode cX8_init 56 = .ok (.newarray .int, 2) := by decide +kernel
theorem dX8_init_58 : decode cX8_init 58 = .ok (.putfield 28, 3) := by decide +kernel
theorem dX8_init_61 : decode cX8_init 61 = .ok (.aload_n 0, 1) := by decide +kernel
theorem dX8_init_62 : decode cX8_init 62 = .ok (.bipush 60, 2) := by decide +kernel
theorem dX8_init_64 : decode cX8_init 64 = .ok (.newarray .int, 2) := by decide +kernel
theorem dX8_init_66 : decode cX8_init 66 = .ok (.putfield 31, 3) := by decide +kernel
theorem dX8_init_69 : decode cX8_init 69 = .ok (.aload_n 0, 1) := by decide +kernel
theorem dX8_init_70 : decode cX8_init 70 = .ok (.bipush 60, 2) := by decide +kernel
theorem dX8_init_72 : decode cX8_init 72 = .ok (.newarray .int, 2) := by decide +kernel
theorem dX8_init_74 : decode cX8_init 74 = .ok (.putfield 34, 3) := by decide +kernel
theorem dX8_init_77 : decode cX8_init 77 = .ok (.aload_n 0, 1) := by decide +kernel
theorem dX8_init_78 : decode cX8_init 78 = .ok (.iconst 3, 1) := by decide +kernel
theorem dX8_init_79 : decode cX8_init 79 = .ok (.newarray .int, 2) := by decide +kernel
theorem dX8_init_81 : decode cX8_init 81 = .ok (.putfield 37, 3) := by decide +kernel
theorem dX8_init_84 : decode cX8_init 84 = .ok (.aload_n 0, 1) := by decide +kernel
theorem dX8_init_85 : decode cX8_init 85 = .ok (.bipush 60, 2) := by decide +kernel
theorem dX8_init_87 : decode cX8_init 87 = .ok (.newarray .int, 2) := by decide +kernel
theorem dX8_init_89 : decode cX8_init 89 = .ok (.putfield 40, 3) := by decide +kernel
theorem dX8_init_92 : decode cX8_init 92 = .ok (.aload_n 0, 1) := by decide +kernel
theorem dX8_init_93 : decode cX8_init 93 = .ok (.bipush 30, 2) := by decide +kernel
theorem dX8_init_95 : decode cX8_init 95 = .ok (.newarray .int, 2) := by decide +kernel
theorem dX8_init_97 : decode cX8_init 97 = .ok (.putfield 43, 3) := by decide +kernel
theorem dX8_init_100 : decode cX8_init 100 = .ok (.aload_n 0, 1) := by decide +kernel
theorem dX8_init_101 : decode cX8_init 101 = .ok (.getfield 9, 3) := by decide +kernel
theorem dX8_init_104 : decode cX8_init 104 = .ok (.iconst 1, 1) := by decide +kernel
theorem dX8_init_105 : decode cX8_init 105 = .ok (.iconst 1, 1) := by decide +kernel
theorem dX8_init_106 : decode cX8_init 106 = .ok (.iastore, 1) := by decide +kernel
theorem dX8_init_107 : decode cX8_init 107 = .ok (.return_, 1) := by decide +kernel
theorem dX8_error_0 : decode cX8_error 0 = .ok (.aload_n 0, 1) := by decide +kernel
theorem dX8_error_1 : decode cX8_error 1 = .ok (.getfield 19, 3) := by decide +kernel
theorem dX8_error_4 : decode cX8_error 4 = .ok (.ldc 46, 2) := by decide +kernel
theorem dX8_error_6 : decode cX8_error 6 = .ok (.iload_n 1, 1) := by decide +kernel
theorem dX8_error_7 : decode cX8_error 7 = .ok (.isub, 1) := by decide +kernel
theorem dX8_error_8 : decode cX8_error 8 = .ok (.dup2, 1) := by decide +kernel
theorem dX8_error_9 : decode cX8_error 9 = .ok (.iaload, 1) := by decide +kernel
theorem dX8_error_10 : decode cX8_error 10 = .ok (.iconst 1, 1) := by decide +kernel
theorem dX8_error_11 : decode cX8_error 11 = .ok (.iadd, 1) := by decide +kernel
theorem dX8_error_12 : decode cX8_error 12 = .ok (.iastore, 1) := by decide +kernel
theorem dX8_error_13 : decode cX8_error 13 = .ok (.iload_n 1, 1) := by decide +kernel
theorem dX8_error_14 : decode cX8_error 14 = .ok (.ireturn, 1) := by decide +kernel
theorem dX8_in_0 : decode cX8_in 0 = .ok (.iload_n 0, 1) := by decide +kernel
theorem dX8_in_1 : decode cX8_in 1 = .ok (.iload_n 1, 1) := by decide +kernel
theorem dX8_in_2 : decode cX8_in 2 = .ok (.if_icmp .lt 12, 3) := by decide +kernel
theorem dX8_in_5 : decode cX8_in 5 = .ok (.iload_n 0, 1) := by decide +kernel
theorem dX8_in_6 : decode cX8_in 6 = .ok (.iload_n 2, 1) := by decide +kernel
theorem dX8_in_7 : decode cX8_in 7 = .ok (.if_icmp .gt 7, 3) := by decide +kernel
theorem dX8_in_10 : decode cX8_in 10 = .ok (.iconst 1, 1) := by decide +kernel
theorem dX8_in_11 : decode cX8_in 11 = .ok (.goto 4, 3) := by decide +kernel
theorem dX8_in_14 : decode cX8_in 14 = .ok (.iconst 0, 1) := by decide +kernel
theorem dX8_in_15 : decode cX8_in 15 = .ok (.ireturn, 1) := by decide +kernel
theorem dX8_held_0 : decode cX8_held 0 = .ok (.iload_n 0, 1) := by decide +kernel
theorem dX8_held_1 : decode cX8_held 1 = .ok (.iload_n 1, 1) := by decide +kernel
theorem dX8_held_2 : decode cX8_held 2 = .ok (.if_icmp .ge 7, 3) := by decide +kernel
theorem dX8_held_5 : decode cX8_held 5 = .ok (.iload_n 1, 1) := by decide +kernel
theorem dX8_held_6 : decode cX8_held 6 = .ok (.goto 13, 3) := by decide +kernel
theorem dX8_held_9 : decode cX8_held 9 = .ok (.iload_n 0, 1) := by decide +kernel
theorem dX8_held_10 : decode cX8_held 10 = .ok (.iload_n 2, 1) := by decide +kernel
theorem dX8_held_11 : decode cX8_held 11 = .ok (.if_icmp .le 7, 3) := by decide +kernel
theorem dX8_held_14 : decode cX8_held 14 = .ok (.iload_n 2, 1) := by decide +kernel
theorem dX8_held_15 : decode cX8_held 15 = .ok (.goto 4, 3) := by decide +kernel
theorem dX8_held_18 : decode cX8_held 18 = .ok (.iload_n 0, 1) := by decide +kernel
theorem dX8_held_19 : decode cX8_held 19 = .ok (.ireturn, 1) := by decide +kernel
theorem dX8_copyAll_0 : decode cX8_copyAll 0 = .ok (.iconst 0, 1) := by decide +kernel
theorem dX8_copyAll_1 : decode cX8_copyAll 1 = .ok (.istore_n 2, 1) := by decide +kernel
theorem dX8_copyAll_2 : decode cX8_copyAll 2 = .ok (.iload_n 2, 1) := by decide +kernel
theorem dX8_copyAll_3 : decode cX8_copyAll 3 = .ok (.sipush 524, 3) := by decide +kernel
theorem dX8_copyAll_6 : decode cX8_copyAll 6 = .ok (.if_icmp .ge 15, 3) := by decide +kernel
theorem dX8_copyAll_9 : decode cX8_copyAll 9 = .ok (.aload_n 1, 1) := by decide +kernel
theorem dX8_copyAll_10 : decode cX8_copyAll 10 = .ok (.iload_n 2, 1) := by decide +kernel
theorem dX8_copyAll_11 : decode cX8_copyAll 11 = .ok (.aload_n 0, 1) := by decide +kernel
theorem dX8_copyAll_12 : decode cX8_copyAll 12 = .ok (.iload_n 2, 1) := by decide +kernel
theorem dX8_copyAll_13 : decode cX8_copyAll 13 = .ok (.iaload, 1) := by decide +kernel
theorem dX8_copyAll_14 : decode cX8_copyAll 14 = .ok (.iastore, 1) := by decide +kernel
theorem dX8_copyAll_15 : decode cX8_copyAll 15 = .ok (.iinc 2 1, 3) := by decide +kernel
theorem dX8_copyAll_18 : decode cX8_copyAll 18 = .ok (.goto (-16), 3) := by decide +kernel
theorem dX8_copyAll_21 : decode cX8_copyAll 21 = .ok (.return_, 1) := by decide +kernel
theorem dX8_thinks_0 : decode cX8_thinks 0 = .ok (.aload_n 0, 1) := by decide +kernel
theorem dX8_thinks_1 : decode cX8_thinks 1 = .ok (.getfield 9, 3) := by decide +kernel
theorem dX8_thinks_4 : decode cX8_thinks 4 = .ok (.aload_n 0, 1) := by decide +kernel
theorem dX8_thinks_5 : decode cX8_thinks 5 = .ok (.getfield 16, 3) := by decide +kernel
theorem dX8_thinks_8 : decode cX8_thinks 8 = .ok (.invokestatic 47, 3) := by decide +kernel
theorem dX8_thinks_11 : decode cX8_thinks 11 = .ok (.return_, 1) := by decide +kernel
theorem dX8_putsBack_0 : decode cX8_putsBack 0 = .ok (.aload_n 0, 1) := by decide +kernel
theorem dX8_putsBack_1 : decode cX8_putsBack 1 = .ok (.getfield 16, 3) := by decide +kernel
theorem dX8_putsBack_4 : decode cX8_putsBack 4 = .ok (.aload_n 0, 1) := by decide +kernel
theorem dX8_putsBack_5 : decode cX8_putsBack 5 = .ok (.getfield 9, 3) := by decide +kernel
theorem dX8_putsBack_8 : decode cX8_putsBack 8 = .ok (.invokestatic 47, 3) := by decide +kernel
theorem dX8_putsBack_11 : decode cX8_putsBack 11 = .ok (.return_, 1) := by decide +kernel
theorem dX8_bits_0 : decode cX8_bits 0 = .ok (.iconst 0, 1) := by decide +kernel
theorem dX8_bits_1 : decode cX8_bits 1 = .ok (.istore_n 2, 1) := by decide +kernel
theorem dX8_bits_2 : decode cX8_bits 2 = .ok (.lload_n 0, 1) := by decide +kernel
theorem dX8_bits_3 : decode cX8_bits 3 = .ok (.lstore_n 3, 1) := by decide +kernel
theorem dX8_bits_4 : decode cX8_bits 4 = .ok (.lload_n 3, 1) := by decide +kernel
theorem dX8_bits_5 : decode cX8_bits 5 = .ok (.lconst 0, 1) := by decide +kernel
theorem dX8_bits_6 : decode cX8_bits 6 = .ok (.lcmp, 1) := by decide +kernel
theorem dX8_bits_7 : decode cX8_bits 7 = .ok (.ifCond .eq 15, 3) := by decide +kernel
theorem dX8_bits_10 : decode cX8_bits 10 = .ok (.iinc 2 1, 3) := by decide +kernel
theorem dX8_bits_13 : decode cX8_bits 13 = .ok (.lload_n 3, 1) := by decide +kernel
theorem dX8_bits_14 : decode cX8_bits 14 = .ok (.lload_n 3, 1) := by decide +kernel
theorem dX8_bits_15 : decode cX8_bits 15 = .ok (.lconst 1, 1) := by decide +kernel
theorem dX8_bits_16 : decode cX8_bits 16 = .ok (.lsub, 1) := by decide +kernel
theorem dX8_bits_17 : decode cX8_bits 17 = .ok (.land, 1) := by decide +kernel
theorem dX8_bits_18 : decode cX8_bits 18 = .ok (.lstore_n 3, 1) := by decide +kernel
theorem dX8_bits_19 : decode cX8_bits 19 = .ok (.goto (-15), 3) := by decide +kernel
theorem dX8_bits_22 : decode cX8_bits 22 = .ok (.iload_n 2, 1) := by decide +kernel
theorem dX8_bits_23 : decode cX8_bits 23 = .ok (.ireturn, 1) := by decide +kernel
theorem dX8_isFence_0 : decode cX8_isFence 0 = .ok (.iload_n 1, 1) := by decide +kernel
theorem dX8_isFence_1 : decode cX8_isFence 1 = .ok (.iconst 0, 1) := by decide +kernel
theorem dX8_isFence_2 : decode cX8_isFence 2 = .ok (.aload_n 0, 1) := by decide +kernel
theorem dX8_isFence_3 : decode cX8_isFence 3 = .ok (.getfield 9, 3) := by decide +kernel
theorem dX8_isFence_6 : decode cX8_isFence 6 = .ok (.iconst 2, 1) := by decide +kernel
theorem dX8_isFence_7 : decode cX8_isFence 7 = .ok (.iaload, 1) := by decide +kernel
theorem dX8_isFence_8 : decode cX8_isFence 8 = .ok (.iconst 1, 1) := by decide +kernel
theorem dX8_isFence_9 : decode cX8_isFence 9 = .ok (.isub, 1) := by decide +kernel
theorem dX8_isFence_10 : decode cX8_isFence 10 = .ok (.invokestatic 51, 3) := by decide +kernel
theorem dX8_isFence_13 : decode cX8_isFence 13 = .ok (.ireturn, 1) := by decide +kernel
theorem dX8_isCow_0 : decode cX8_isCow 0 = .ok (.iload_n 1, 1) := by decide +kernel
theorem dX8_isCow_1 : decode cX8_isCow 1 = .ok (.iconst 0, 1) := by decide +kernel
theorem dX8_isCow_2 : decode cX8_isCow 2 = .ok (.aload_n 0, 1) := by decide +kernel
theorem dX8_isCow_3 : decode cX8_isCow 3 = .ok (.getfield 9, 3) := by decide +kernel
theorem dX8_isCow_6 : decode cX8_isCow 6 = .ok (.iconst 3, 1) := by decide +kernel
theorem dX8_isCow_7 : decode cX8_isCow 7 = .ok (.iaload, 1) := by decide +kernel
theorem dX8_isCow_8 : decode cX8_isCow 8 = .ok (.iconst 1, 1) := by decide +kernel
theorem dX8_isCow_9 : decode cX8_isCow 9 = .ok (.isub, 1) := by decide +kernel
theorem dX8_isCow_10 : decode cX8_isCow 10 = .ok (.invokestatic 51, 3) := by decide +kernel
theorem dX8_isCow_13 : decode cX8_isCow 13 = .ok (.ireturn, 1) := by decide +kernel
theorem dX8_isCell_0 : decode cX8_isCell 0 = .ok (.iload_n 0, 1) := by decide +kernel
theorem dX8_isCell_1 : decode cX8_isCell 1 = .ok (.iconst 0, 1) := by decide +kernel
theorem dX8_isCell_2 : decode cX8_isCell 2 = .ok (.bipush 63, 2) := by decide +kernel
theorem dX8_isCell_4 : decode cX8_isCell 4 = .ok (.invokestatic 51, 3) := by decide +kernel
theorem dX8_isCell_7 : decode cX8_isCell 7 = .ok (.ireturn, 1) := by decide +kernel
theorem dX8_becomes_0 : decode cX8_becomes 0 = .ok (.aload_n 0, 1) := by decide +kernel
theorem dX8_becomes_1 : decode cX8_becomes 1 = .ok (.getfield 9, 3) := by decide +kernel
theorem dX8_becomes_4 : decode cX8_becomes 4 = .ok (.iload_n 1, 1) := by decide +kernel
theorem dX8_becomes_5 : decode cX8_becomes 5 = .ok (.iaload, 1) := by decide +kernel
theorem dX8_becomes_6 : decode cX8_becomes 6 = .ok (.istore_n 3, 1) := by decide +kernel
theorem dX8_becomes_7 : decode cX8_becomes 7 = .ok (.aload_n 0, 1) := by decide +kernel
theorem dX8_becomes_8 : decode cX8_becomes 8 = .ok (.getfield 9, 3) := by decide +kernel
theorem dX8_becomes_11 : decode cX8_becomes 11 = .ok (.iload_n 1, 1) := by decide +kernel
theorem dX8_becomes_12 : decode cX8_becomes 12 = .ok (.iload_n 2, 1) := by decide +kernel
theorem dX8_becomes_13 : decode cX8_becomes 13 = .ok (.iastore, 1) := by decide +kernel
theorem dX8_becomes_14 : decode cX8_becomes 14 = .ok (.iload_n 3, 1) := by decide +kernel
theorem dX8_becomes_15 : decode cX8_becomes 15 = .ok (.ireturn, 1) := by decide +kernel
theorem dX8_of_0 : decode cX8_of 0 = .ok (.aload_n 0, 1) := by decide +kernel
theorem dX8_of_1 : decode cX8_of 1 = .ok (.getfield 9, 3) := by decide +kernel
theorem dX8_of_4 : decode cX8_of 4 = .ok (.bipush 6, 2) := by decide +kernel
theorem dX8_of_6 : decode cX8_of 6 = .ok (.bipush 13, 2) := by decide +kernel
theorem dX8_of_8 : decode cX8_of 8 = .ok (.iload_n 1, 1) := by decide +kernel
theorem dX8_of_9 : decode cX8_of 9 = .ok (.imul, 1) := by decide +kernel
theorem dX8_of_10 : decode cX8_of 10 = .ok (.iadd, 1) := by decide +kernel
theorem dX8_of_11 : decode cX8_of 11 = .ok (.iload_n 2, 1) := by decide +kernel
theorem dX8_of_12 : decode cX8_of 12 = .ok (.iadd, 1) := by decide +kernel
theorem dX8_of_13 : decode cX8_of 13 = .ok (.iaload, 1) := by decide +kernel
theorem dX8_of_14 : decode cX8_of 14 = .ok (.ireturn, 1) := by decide +kernel
theorem dX8_lets_0 : decode cX8_lets 0 = .ok (.aload_n 0, 1) := by decide +kernel
theorem dX8_lets_1 : decode cX8_lets 1 = .ok (.getfield 9, 3) := by decide +kernel
theorem dX8_lets_4 : decode cX8_lets 4 = .ok (.bipush 6, 2) := by decide +kernel
theorem dX8_lets_6 : decode cX8_lets 6 = .ok (.bipush 13, 2) := by decide +kernel
theorem dX8_lets_8 : decode cX8_lets 8 = .ok (.iload_n 1, 1) := by decide +kernel
theorem dX8_lets_9 : decode cX8_lets 9 = .ok (.imul, 1) := by decide +kernel
theorem dX8_lets_10 : decode cX8_lets 10 = .ok (.iadd, 1) := by decide +kernel
theorem dX8_lets_11 : decode cX8_lets 11 = .ok (.iload_n 2, 1) := by decide +kernel
theorem dX8_lets_12 : decode cX8_lets 12 = .ok (.iadd, 1) := by decide +kernel
theorem dX8_lets_13 : decode cX8_lets 13 = .ok (.iload_n 3, 1) := by decide +kernel
theorem dX8_lets_14 : decode cX8_lets 14 = .ok (.iastore, 1) := by decide +kernel
theorem dX8_lets_15 : decode cX8_lets 15 = .ok (.return_, 1) := by decide +kernel
theorem dX8_headsOf_0 : decode cX8_headsOf 0 = .ok (.aload_n 0, 1) := by decide +kernel
theorem dX8_headsOf_1 : decode cX8_headsOf 1 = .ok (.getfield 9, 3) := by decide +kernel
theorem dX8_headsOf_4 : decode cX8_headsOf 4 = .ok (.iconst 0, 1) := by decide +kernel
theorem dX8_headsOf_5 : decode cX8_headsOf 5 = .ok (.iaload, 1) := by decide +kernel
theorem dX8_headsOf_6 : decode cX8_headsOf 6 = .ok (.istore_n 3, 1) := by decide +kernel
theorem dX8_headsOf_7 : decode cX8_headsOf 7 = .ok (.aload_n 0, 1) := by decide +kernel
theorem dX8_headsOf_8 : decode cX8_headsOf 8 = .ok (.iload_n 1, 1) := by decide +kernel
theorem dX8_headsOf_9 : decode cX8_headsOf 9 = .ok (.iconst 2, 1) := by decide +kernel
theorem dX8_headsOf_10 : decode cX8_headsOf 10 = .ok (.invokevirtual 55, 3) := by decide +kernel
theorem dX8_headsOf_13 : decode cX8_headsOf 13 = .ok (.istore 4, 2) := by decide +kernel
theorem dX8_headsOf_15 : decode cX8_headsOf 15 = .ok (.iload_n 3, 1) := by decide +kernel
theorem dX8_headsOf_16 : decode cX8_headsOf 16 = .ok (.iconst 2, 1) := by decide +kernel
theorem dX8_headsOf_17 : decode cX8_headsOf 17 = .ok (.irem, 1) := by decide +kernel
theorem dX8_headsOf_18 : decode cX8_headsOf 18 = .ok (.iconst 1, 1) := by decide +kernel
theorem dX8_headsOf_19 : decode cX8_headsOf 19 = .ok (.if_icmp .ne 7, 3) := by decide +kernel
theorem dX8_headsOf_22 : decode cX8_headsOf 22 = .ok (.iconst (-1), 1) := by decide +kernel
theorem dX8_headsOf_23 : decode cX8_headsOf 23 = .ok (.goto 5, 3) := by decide +kernel
theorem dX8_headsOf_26 : decode cX8_headsOf 26 = .ok (.iload 4, 2) := by decide +kernel
theorem dX8_headsOf_28 : decode cX8_headsOf 28 = .ok (.istore 5, 2) := by decide +kernel
theorem dX8_headsOf_30 : decode cX8_headsOf 30 = .ok (.aload_n 0, 1) := by decide +kernel
theorem dX8_headsOf_31 : decode cX8_headsOf 31 = .ok (.iload_n 1, 1) := by decide +kernel
theorem dX8_headsOf_32 : decode cX8_headsOf 32 = .ok (.iconst 0, 1) := by decide +kernel
theorem dX8_headsOf_33 : decode cX8_headsOf 33 = .ok (.invokevirtual 55, 3) := by decide +kernel
theorem dX8_headsOf_36 : decode cX8_headsOf 36 = .ok (.tableswitch 103 2 6 #[36, 39, 55, 74, 85], 36) := by decide +kernel
theorem dX8_headsOf_72 : decode cX8_headsOf 72 = .ok (.iload 5, 2) := by decide +kernel
theorem dX8_headsOf_74 : decode cX8_headsOf 74 = .ok (.ireturn, 1) := by decide +kernel
theorem dX8_headsOf_75 : decode cX8_headsOf 75 = .ok (.iload 4, 2) := by decide +kernel
theorem dX8_headsOf_77 : decode cX8_headsOf 77 = .ok (.iload_n 3, 1) := by decide +kernel
theorem dX8_headsOf_78 : decode cX8_headsOf 78 = .ok (.aload_n 0, 1) := by decide +kernel
theorem dX8_headsOf_79 : decode cX8_headsOf 79 = .ok (.iload_n 1, 1) := by decide +kernel
theorem dX8_headsOf_80 : decode cX8_headsOf 80 = .ok (.iconst 1, 1) := by decide +kernel
theorem dX8_headsOf_81 : decode cX8_headsOf 81 = .ok (.invokevirtual 55, 3) := by decide +kernel
theorem dX8_headsOf_84 : decode cX8_headsOf 84 = .ok (.iconst 1, 1) := by decide +kernel
theorem dX8_headsOf_85 : decode cX8_headsOf 85 = .ok (.iadd, 1) := by decide +kernel
theorem dX8_headsOf_86 : decode cX8_headsOf 86 = .ok (.idiv, 1) := by decide +kernel
theorem dX8_headsOf_87 : decode cX8_headsOf 87 = .ok (.iadd, 1) := by decide +kernel
theorem dX8_headsOf_88 : decode cX8_headsOf 88 = .ok (.iconst 4, 1) := by decide +kernel
theorem dX8_headsOf_89 : decode cX8_headsOf 89 = .ok (.irem, 1) := by decide +kernel
theorem dX8_headsOf_90 : decode cX8_headsOf 90 = .ok (.ireturn, 1) := by decide +kernel
theorem dX8_headsOf_91 : decode cX8_headsOf 91 = .ok (.iload_n 3, 1) := by decide +kernel
theorem dX8_headsOf_92 : decode cX8_headsOf 92 = .ok (.iconst 4, 1) := by decide +kernel
theorem dX8_headsOf_93 : decode cX8_headsOf 93 = .ok (.irem, 1) := by decide +kernel
theorem dX8_headsOf_94 : decode cX8_headsOf 94 = .ok (.iconst 1, 1) := by decide +kernel
theorem dX8_headsOf_95 : decode cX8_headsOf 95 = .ok (.if_icmp .le 12, 3) := by decide +kernel
theorem dX8_headsOf_98 : decode cX8_headsOf 98 = .ok (.iload 4, 2) := by decide +kernel
theorem dX8_headsOf_100 : decode cX8_headsOf 100 = .ok (.iconst 2, 1) := by decide +kernel
theorem dX8_headsOf_101 : decode cX8_headsOf 101 = .ok (.iadd, 1) := by decide +kernel
theorem dX8_headsOf_102 : decode cX8_headsOf 102 = .ok (.iconst 4, 1) := by decide +kernel
theorem dX8_headsOf_103 : decode cX8_headsOf 103 = .ok (.irem, 1) := by decide +kernel
theorem dX8_headsOf_104 : decode cX8_headsOf 104 = .ok (.goto 5, 3) := by decide +kernel
theorem dX8_headsOf_107 : decode cX8_headsOf 107 = .ok (.iload 4, 2) := by decide +kernel
theorem dX8_headsOf_109 : decode cX8_headsOf 109 = .ok (.ireturn, 1) := by decide +kernel
theorem dX8_headsOf_110 : decode cX8_headsOf 110 = .ok (.iload_n 2, 1) := by decide +kernel
theorem dX8_headsOf_111 : decode cX8_headsOf 111 = .ok (.ifCond .ne 7, 3) := by decide +kernel
theorem dX8_headsOf_114 : decode cX8_headsOf 114 = .ok (.iconst (-1), 1) := by decide +kernel
theorem dX8_headsOf_115 : decode cX8_headsOf 115 = .ok (.goto 5, 3) := by decide +kernel
theorem dX8_headsOf_118 : decode cX8_headsOf 118 = .ok (.iload 5, 2) := by decide +kernel
theorem dX8_headsOf_120 : decode cX8_headsOf 120 = .ok (.ireturn, 1) := by decide +kernel
theorem dX8_headsOf_121 : decode cX8_headsOf 121 = .ok (.aload_n 0, 1) := by decide +kernel
theorem dX8_headsOf_122 : decode cX8_headsOf 122 = .ok (.iload_n 1, 1) := by decide +kernel
theorem dX8_headsOf_123 : decode cX8_headsOf 123 = .ok (.iconst 1, 1) := by decide +kernel
theorem dX8_headsOf_124 : decode cX8_headsOf 124 = .ok (.invokevirtual 55, 3) := by decide +kernel
theorem dX8_headsOf_127 : decode cX8_headsOf 127 = .ok (.bipush 9, 2) := by decide +kernel
theorem dX8_headsOf_129 : decode cX8_headsOf 129 = .ok (.if_icmp .ne 8, 3) := by decide +kernel
theorem dX8_headsOf_132 : decode cX8_headsOf 132 = .ok (.iload 4, 2) := by decide +kernel
theorem dX8_headsOf_134 : decode cX8_headsOf 134 = .ok (.goto 4, 3) := by decide +kernel
theorem dX8_headsOf_137 : decode cX8_headsOf 137 = .ok (.iconst (-1), 1) := by decide +kernel
theorem dX8_headsOf_138 : decode cX8_headsOf 138 = .ok (.ireturn, 1) := by decide +kernel
theorem dX8_headsOf_139 : decode cX8_headsOf 139 = .ok (.iload 4, 2) := by decide +kernel
theorem dX8_headsOf_141 : decode cX8_headsOf 141 = .ok (.ireturn, 1) := by decide +kernel
theorem dX8_next_0 : decode cX8_next 0 = .ok (.iload_n 1, 1) := by decide +kernel
theorem dX8_next_1 : decode cX8_next 1 = .ok (.tableswitch 93 0 3 #[31, 46, 63, 78], 31) := by decide +kernel
theorem dX8_next_32 : decode cX8_next 32 = .ok (.iload_n 0, 1) := by decide +kernel
theorem dX8_next_33 : decode cX8_next 33 = .ok (.bipush 8, 2) := by decide +kernel
theorem dX8_next_35 : decode cX8_next 35 = .ok (.if_icmp .ge 7, 3) := by decide +kernel
theorem dX8_next_38 : decode cX8_next 38 = .ok (.iconst (-1), 1) := by decide +kernel
theorem dX8_next_39 : decode cX8_next 39 = .ok (.goto 7, 3) := by decide +kernel
theorem dX8_next_42 : decode cX8_next 42 = .ok (.iload_n 0, 1) := by decide +kernel
theorem dX8_next_43 : decode cX8_next 43 = .ok (.bipush 8, 2) := by decide +kernel
theorem dX8_next_45 : decode cX8_next 45 = .ok (.isub, 1) := by decide +kernel
theorem dX8_next_46 : decode cX8_next 46 = .ok (.ireturn, 1) := by decide +kernel
theorem dX8_next_47 : decode cX8_next 47 = .ok (.iload_n 0, 1) := by decide +kernel
theorem dX8_next_48 : decode cX8_next 48 = .ok (.bipush 8, 2) := by decide +kernel
theorem dX8_next_50 : decode cX8_next 50 = .ok (.irem, 1) := by decide +kernel
theorem dX8_next_51 : decode cX8_next 51 = .ok (.bipush 7, 2) := by decide +kernel
theorem dX8_next_53 : decode cX8_next 53 = .ok (.if_icmp .ne 7, 3) := by decide +kernel
theorem dX8_next_56 : decode cX8_next 56 = .ok (.iconst (-1), 1) := by decide +kernel
theorem dX8_next_57 : decode cX8_next 57 = .ok (.goto 6, 3) := by decide +kernel
theorem dX8_next_60 : decode cX8_next 60 = .ok (.iload_n 0, 1) := by decide +kernel
theorem dX8_next_61 : decode cX8_next 61 = .ok (.iconst 1, 1) := by decide +kernel
theorem dX8_next_62 : decode cX8_next 62 = .ok (.iadd, 1) := by decide +kernel
theorem dX8_next_63 : decode cX8_next 63 = .ok (.ireturn, 1) := by decide +kernel
theorem dX8_next_64 : decode cX8_next 64 = .ok (.iload_n 0, 1) := by decide +kernel
theorem dX8_next_65 : decode cX8_next 65 = .ok (.bipush 55, 2) := by decide +kernel
theorem dX8_next_67 : decode cX8_next 67 = .ok (.if_icmp .le 7, 3) := by decide +kernel
theorem dX8_next_70 : decode cX8_next 70 = .ok (.iconst (-1), 1) := by decide +kernel
theorem dX8_next_71 : decode cX8_next 71 = .ok (.goto 7, 3) := by decide +kernel
theorem dX8_next_74 : decode cX8_next 74 = .ok (.iload_n 0, 1) := by decide +kernel
theorem dX8_next_75 : decode cX8_next 75 = .ok (.bipush 8, 2) := by decide +kernel
theorem dX8_next_77 : decode cX8_next 77 = .ok (.iadd, 1) := by decide +kernel
theorem dX8_next_78 : decode cX8_next 78 = .ok (.ireturn, 1) := by decide +kernel
theorem dX8_next_79 : decode cX8_next 79 = .ok (.iload_n 0, 1) := by decide +kernel
theorem dX8_next_80 : decode cX8_next 80 = .ok (.bipush 8, 2) := by decide +kernel
theorem dX8_next_82 : decode cX8_next 82 = .ok (.irem, 1) := by decide +kernel
theorem dX8_next_83 : decode cX8_next 83 = .ok (.ifCond .ne 7, 3) := by decide +kernel
theorem dX8_next_86 : decode cX8_next 86 = .ok (.iconst (-1), 1) := by decide +kernel
theorem dX8_next_87 : decode cX8_next 87 = .ok (.goto 6, 3) := by decide +kernel
theorem dX8_next_90 : decode cX8_next 90 = .ok (.iload_n 0, 1) := by decide +kernel
theorem dX8_next_91 : decode cX8_next 91 = .ok (.iconst 1, 1) := by decide +kernel
theorem dX8_next_92 : decode cX8_next 92 = .ok (.isub, 1) := by decide +kernel
theorem dX8_next_93 : decode cX8_next 93 = .ok (.ireturn, 1) := by decide +kernel
theorem dX8_next_94 : decode cX8_next 94 = .ok (.iconst (-1), 1) := by decide +kernel
theorem dX8_next_95 : decode cX8_next 95 = .ok (.ireturn, 1) := by decide +kernel
theorem dX8_moves_0 : decode cX8_moves 0 = .ok (.iconst 0, 1) := by decide +kernel
theorem dX8_moves_1 : decode cX8_moves 1 = .ok (.istore_n 1, 1) := by decide +kernel
theorem dX8_moves_2 : decode cX8_moves 2 = .ok (.iload_n 1, 1) := by decide +kernel
theorem dX8_moves_3 : decode cX8_moves 3 = .ok (.aload_n 0, 1) := by decide +kernel
theorem dX8_moves_4 : decode cX8_moves 4 = .ok (.getfield 9, 3) := by decide +kernel
theorem dX8_moves_7 : decode cX8_moves 7 = .ok (.iconst 2, 1) := by decide +kernel
theorem dX8_moves_8 : decode cX8_moves 8 = .ok (.iaload, 1) := by decide +kernel
theorem dX8_moves_9 : decode cX8_moves 9 = .ok (.if_icmp .ge 118, 3) := by decide +kernel
theorem dX8_moves_12 : decode cX8_moves 12 = .ok (.aload_n 0, 1) := by decide +kernel
theorem dX8_moves_13 : decode cX8_moves 13 = .ok (.iload_n 1, 1) := by decide +kernel
theorem dX8_moves_14 : decode cX8_moves 14 = .ok (.iconst 0, 1) := by decide +kernel
theorem dX8_moves_15 : decode cX8_moves 15 = .ok (.invokevirtual 55, 3) := by decide +kernel
theorem dX8_moves_18 : decode cX8_moves 18 = .ok (.iconst 1, 1) := by decide +kernel
theorem dX8_moves_19 : decode cX8_moves 19 = .ok (.if_icmp .eq 17, 3) := by decide +kernel
theorem dX8_moves_22 : decode cX8_moves 22 = .ok (.aload_n 0, 1) := by decide +kernel
theorem dX8_moves_23 : decode cX8_moves 23 = .ok (.iload_n 1, 1) := by decide +kernel
theorem dX8_moves_24 : decode cX8_moves 24 = .ok (.iconst 0, 1) := by decide +kernel
theorem dX8_moves_25 : decode cX8_moves 25 = .ok (.invokevirtual 55, 3) := by decide +kernel
theorem dX8_moves_28 : decode cX8_moves 28 = .ok (.iconst 4, 1) := by decide +kernel
theorem dX8_moves_29 : decode cX8_moves 29 = .ok (.if_icmp .eq 7, 3) := by decide +kernel
theorem dX8_moves_32 : decode cX8_moves 32 = .ok (.iconst 1, 1) := by decide +kernel
theorem dX8_moves_33 : decode cX8_moves 33 = .ok (.goto 4, 3) := by decide +kernel
theorem dX8_moves_36 : decode cX8_moves 36 = .ok (.iconst 0, 1) := by decide +kernel
theorem dX8_moves_37 : decode cX8_moves 37 = .ok (.istore_n 2, 1) := by decide +kernel
theorem dX8_moves_38 : decode cX8_moves 38 = .ok (.iconst 0, 1) := by decide +kernel
theorem dX8_moves_39 : decode cX8_moves 39 = .ok (.istore_n 3, 1) := by decide +kernel
theorem dX8_moves_40 : decode cX8_moves 40 = .ok (.iload_n 3, 1) := by decide +kernel
theorem dX8_moves_41 : decode cX8_moves 41 = .ok (.aload_n 0, 1) := by decide +kernel
theorem dX8_moves_42 : decode cX8_moves 42 = .ok (.iload_n 1, 1) := by decide +kernel
theorem dX8_moves_43 : decode cX8_moves 43 = .ok (.iconst 3, 1) := by decide +kernel
theorem dX8_moves_44 : decode cX8_moves 44 = .ok (.invokevirtual 55, 3) := by decide +kernel
theorem dX8_moves_47 : decode cX8_moves 47 = .ok (.if_icmp .ge 74, 3) := by decide +kernel
theorem dX8_moves_50 : decode cX8_moves 50 = .ok (.aload_n 0, 1) := by decide +kernel
theorem dX8_moves_51 : decode cX8_moves 51 = .ok (.iload_n 1, 1) := by decide +kernel
theorem dX8_moves_52 : decode cX8_moves 52 = .ok (.iconst 5, 1) := by decide +kernel
theorem dX8_moves_53 : decode cX8_moves 53 = .ok (.iload_n 3, 1) := by decide +kernel
theorem dX8_moves_54 : decode cX8_moves 54 = .ok (.iadd, 1) := by decide +kernel
theorem dX8_moves_55 : decode cX8_moves 55 = .ok (.invokevirtual 55, 3) := by decide +kernel
theorem dX8_moves_58 : decode cX8_moves 58 = .ok (.aload_n 0, 1) := by decide +kernel
theorem dX8_moves_59 : decode cX8_moves 59 = .ok (.iload_n 1, 1) := by decide +kernel
theorem dX8_moves_60 : decode cX8_moves 60 = .ok (.iload_n 3, 1) := by decide +kernel
theorem dX8_moves_61 : decode cX8_moves 61 = .ok (.invokevirtual 59, 3) := by decide +kernel
theorem dX8_moves_64 : decode cX8_moves 64 = .ok (.invokestatic 62, 3) := by decide +kernel
theorem dX8_moves_67 : decode cX8_moves 67 = .ok (.istore 4, 2) := by decide +kernel
theorem dX8_moves_69 : decode cX8_moves 69 = .ok (.iload 4, 2) := by decide +kernel
theorem dX8_moves_71 : decode cX8_moves 71 = .ok (.ifCond .lt 44, 3) := by decide +kernel
theorem dX8_moves_74 : decode cX8_moves 74 = .ok (.aload_n 0, 1) := by decide +kernel
theorem dX8_moves_75 : decode cX8_moves 75 = .ok (.getfield 9, 3) := by decide +kernel
theorem dX8_moves_78 : decode cX8_moves 78 = .ok (.bipush 70, 2) := by decide +kernel
theorem dX8_moves_80 : decode cX8_moves 80 = .ok (.iload 4, 2) := by decide +kernel
theorem dX8_moves_82 : decode cX8_moves 82 = .ok (.iadd, 1) := by decide +kernel
theorem dX8_moves_83 : decode cX8_moves 83 = .ok (.iaload, 1) := by decide +kernel
theorem dX8_moves_84 : decode cX8_moves 84 = .ok (.ifCond .ne 31, 3) := by decide +kernel
theorem dX8_moves_87 : decode cX8_moves 87 = .ok (.iload_n 2, 1) := by decide +kernel
theorem dX8_moves_88 : decode cX8_moves 88 = .ok (.ifCond .ne 17, 3) := by decide +kernel
theorem dX8_moves_91 : decode cX8_moves 91 = .ok (.aload_n 0, 1) := by decide +kernel
theorem dX8_moves_92 : decode cX8_moves 92 = .ok (.getfield 9, 3) := by decide +kernel
theorem dX8_moves_95 : decode cX8_moves 95 = .ok (.sipush 134, 3) := by decide +kernel
theorem dX8_moves_98 : decode cX8_moves 98 = .ok (.iload 4, 2) := by decide +kernel
theorem dX8_moves_100 : decode cX8_moves 100 = .ok (.iadd, 1) := by decide +kernel
theorem dX8_moves_101 : decode cX8_moves 101 = .ok (.iaload, 1) := by decide +kernel
theorem dX8_moves_102 : decode cX8_moves 102 = .ok (.ifCond .ne 13, 3) := by decide +kernel
theorem dX8_moves_105 : decode cX8_moves 105 = .ok (.aload_n 0, 1) := by decide +kernel
theorem dX8_moves_106 : decode cX8_moves 106 = .ok (.iload_n 1, 1) := by decide +kernel
theorem dX8_moves_107 : decode cX8_moves 107 = .ok (.iconst 5, 1) := by decide +kernel
theorem dX8_moves_108 : decode cX8_moves 108 = .ok (.iload_n 3, 1) := by decide +kernel
theorem dX8_moves_109 : decode cX8_moves 109 = .ok (.iadd, 1) := by decide +kernel
theorem dX8_moves_110 : decode cX8_moves 110 = .ok (.iload 4, 2) := by decide +kernel
theorem dX8_moves_112 : decode cX8_moves 112 = .ok (.invokevirtual 65, 3) := by decide +kernel
theorem dX8_moves_115 : decode cX8_moves 115 = .ok (.iinc 3 1, 3) := by decide +kernel
theorem dX8_moves_118 : decode cX8_moves 118 = .ok (.goto (-78), 3) := by decide +kernel
theorem dX8_moves_121 : decode cX8_moves 121 = .ok (.iinc 1 1, 3) := by decide +kernel
theorem dX8_moves_124 : decode cX8_moves 124 = .ok (.goto (-122), 3) := by decide +kernel
theorem dX8_moves_127 : decode cX8_moves 127 = .ok (.aload_n 0, 1) := by decide +kernel
theorem dX8_moves_128 : decode cX8_moves 128 = .ok (.getfield 9, 3) := by decide +kernel
theorem dX8_moves_131 : decode cX8_moves 131 = .ok (.iconst 0, 1) := by decide +kernel
theorem dX8_moves_132 : decode cX8_moves 132 = .ok (.dup2, 1) := by decide +kernel
theorem dX8_moves_133 : decode cX8_moves 133 = .ok (.iaload, 1) := by decide +kernel
theorem dX8_moves_134 : decode cX8_moves 134 = .ok (.iconst 1, 1) := by decide +kernel
theorem dX8_moves_135 : decode cX8_moves 135 = .ok (.iadd, 1) := by decide +kernel
theorem dX8_moves_136 : decode cX8_moves 136 = .ok (.iastore, 1) := by decide +kernel
theorem dX8_moves_137 : decode cX8_moves 137 = .ok (.return_, 1) := by decide +kernel
theorem dX8_postsOf_0 : decode cX8_postsOf 0 = .ok (.lconst 0, 1) := by decide +kernel
theorem dX8_postsOf_1 : decode cX8_postsOf 1 = .ok (.lstore_n 2, 1) := by decide +kernel
theorem dX8_postsOf_2 : decode cX8_postsOf 2 = .ok (.iconst 0, 1) := by decide +kernel
theorem dX8_postsOf_3 : decode cX8_postsOf 3 = .ok (.istore 4, 2) := by decide +kernel
theorem dX8_postsOf_5 : decode cX8_postsOf 5 = .ok (.iload 4, 2) := by decide +kernel
theorem dX8_postsOf_7 : decode cX8_postsOf 7 = .ok (.aload_n 0, 1) := by decide +kernel
theorem dX8_postsOf_8 : decode cX8_postsOf 8 = .ok (.iload_n 1, 1) := by decide +kernel
theorem dX8_postsOf_9 : decode cX8_postsOf 9 = .ok (.iconst 3, 1) := by decide +kernel
theorem dX8_postsOf_10 : decode cX8_postsOf 10 = .ok (.invokevirtual 55, 3) := by decide +kernel
theorem dX8_postsOf_13 : decode cX8_postsOf 13 = .ok (.if_icmp .ge 23, 3) := by decide +kernel
theorem dX8_postsOf_16 : decode cX8_postsOf 16 = .ok (.lload_n 2, 1) := by decide +kernel
theorem dX8_postsOf_17 : decode cX8_postsOf 17 = .ok (.lconst 1, 1) := by decide +kernel
theorem dX8_postsOf_18 : decode cX8_postsOf 18 = .ok (.aload_n 0, 1) := by decide +kernel
theorem dX8_postsOf_19 : decode cX8_postsOf 19 = .ok (.iload_n 1, 1) := by decide +kernel
theorem dX8_postsOf_20 : decode cX8_postsOf 20 = .ok (.iconst 5, 1) := by decide +kernel
theorem dX8_postsOf_21 : decode cX8_postsOf 21 = .ok (.iload 4, 2) := by decide +kernel
theorem dX8_postsOf_23 : decode cX8_postsOf 23 = .ok (.iadd, 1) := by decide +kernel
theorem dX8_postsOf_24 : decode cX8_postsOf 24 = .ok (.invokevirtual 55, 3) := by decide +kernel
theorem dX8_postsOf_27 : decode cX8_postsOf 27 = .ok (.lshl, 1) := by decide +kernel
theorem dX8_postsOf_28 : decode cX8_postsOf 28 = .ok (.lor, 1) := by decide +kernel
theorem dX8_postsOf_29 : decode cX8_postsOf 29 = .ok (.lstore_n 2, 1) := by decide +kernel
theorem dX8_postsOf_30 : decode cX8_postsOf 30 = .ok (.iinc 4 1, 3) := by decide +kernel
theorem dX8_postsOf_33 : decode cX8_postsOf 33 = .ok (.goto (-28), 3) := by decide +kernel
theorem dX8_postsOf_36 : decode cX8_postsOf 36 = .ok (.lload_n 2, 1) := by decide +kernel
theorem dX8_postsOf_37 : decode cX8_postsOf 37 = .ok (.lreturn, 1) := by decide +kernel
theorem dX8_beside_0 : decode cX8_beside 0 = .ok (.lload_n 0, 1) := by decide +kernel
theorem dX8_beside_1 : decode cX8_beside 1 = .ok (.bipush 8, 2) := by decide +kernel
theorem dX8_beside_3 : decode cX8_beside 3 = .ok (.lshl, 1) := by decide +kernel
theorem dX8_beside_4 : decode cX8_beside 4 = .ok (.lload_n 0, 1) := by decide +kernel
theorem dX8_beside_5 : decode cX8_beside 5 = .ok (.bipush 8, 2) := by decide +kernel
theorem dX8_beside_7 : decode cX8_beside 7 = .ok (.lushr, 1) := by decide +kernel
theorem dX8_beside_8 : decode cX8_beside 8 = .ok (.lor, 1) := by decide +kernel
theorem dX8_beside_9 : decode cX8_beside 9 = .ok (.lload_n 0, 1) := by decide +kernel
theorem dX8_beside_10 : decode cX8_beside 10 = .ok (.iconst 1, 1) := by decide +kernel
theorem dX8_beside_11 : decode cX8_beside 11 = .ok (.lshl, 1) := by decide +kernel
theorem dX8_beside_12 : decode cX8_beside 12 = .ok (.ldc2_w 69, 3) := by decide +kernel
theorem dX8_beside_15 : decode cX8_beside 15 = .ok (.land, 1) := by decide +kernel
theorem dX8_beside_16 : decode cX8_beside 16 = .ok (.lor, 1) := by decide +kernel
theorem dX8_beside_17 : decode cX8_beside 17 = .ok (.lload_n 0, 1) := by decide +kernel
theorem dX8_beside_18 : decode cX8_beside 18 = .ok (.iconst 1, 1) := by decide +kernel
theorem dX8_beside_19 : decode cX8_beside 19 = .ok (.lushr, 1) := by decide +kernel
theorem dX8_beside_20 : decode cX8_beside 20 = .ok (.ldc2_w 71, 3) := by decide +kernel
theorem dX8_beside_23 : decode cX8_beside 23 = .ok (.land, 1) := by decide +kernel
theorem dX8_beside_24 : decode cX8_beside 24 = .ok (.lor, 1) := by decide +kernel
theorem dX8_beside_25 : decode cX8_beside 25 = .ok (.lreturn, 1) := by decide +kernel
theorem dX8_insideOf_0 : decode cX8_insideOf 0 = .ok (.aload_n 0, 1) := by decide +kernel
theorem dX8_insideOf_1 : decode cX8_insideOf 1 = .ok (.iload_n 1, 1) := by decide +kernel
theorem dX8_insideOf_2 : decode cX8_insideOf 2 = .ok (.invokevirtual 73, 3) := by decide +kernel
theorem dX8_insideOf_5 : decode cX8_insideOf 5 = .ok (.ldc2_w 77, 3) := by decide +kernel
theorem dX8_insideOf_8 : decode cX8_insideOf 8 = .ok (.lxor, 1) := by decide +kernel
theorem dX8_insideOf_9 : decode cX8_insideOf 9 = .ok (.lstore_n 2, 1) := by decide +kernel
theorem dX8_insideOf_10 : decode cX8_insideOf 10 = .ok (.ldc2_w 79, 3) := by decide +kernel
theorem dX8_insideOf_13 : decode cX8_insideOf 13 = .ok (.lload_n 2, 1) := by decide +kernel
theorem dX8_insideOf_14 : decode cX8_insideOf 14 = .ok (.land, 1) := by decide +kernel
theorem dX8_insideOf_15 : decode cX8_insideOf 15 = .ok (.lstore 4, 2) := by decide +kernel
theorem dX8_insideOf_17 : decode cX8_insideOf 17 = .ok (.lconst 0, 1) := by decide +kernel
theorem dX8_insideOf_18 : decode cX8_insideOf 18 = .ok (.lstore 6, 2) := by decide +kernel
theorem dX8_insideOf_20 : decode cX8_insideOf 20 = .ok (.lload 4, 2) := by decide +kernel
theorem dX8_insideOf_22 : decode cX8_insideOf 22 = .ok (.lload 6, 2) := by decide +kernel
theorem dX8_insideOf_24 : decode cX8_insideOf 24 = .ok (.lcmp, 1) := by decide +kernel
theorem dX8_insideOf_25 : decode cX8_insideOf 25 = .ok (.ifCond .eq 22, 3) := by decide +kernel
theorem dX8_insideOf_28 : decode cX8_insideOf 28 = .ok (.lload 4, 2) := by decide +kernel
theorem dX8_insideOf_30 : decode cX8_insideOf 30 = .ok (.lstore 6, 2) := by decide +kernel
theorem dX8_insideOf_32 : decode cX8_insideOf 32 = .ok (.lload 4, 2) := by decide +kernel
theorem dX8_insideOf_34 : decode cX8_insideOf 34 = .ok (.lload 4, 2) := by decide +kernel
theorem dX8_insideOf_36 : decode cX8_insideOf 36 = .ok (.invokestatic 81, 3) := by decide +kernel
theorem dX8_insideOf_39 : decode cX8_insideOf 39 = .ok (.lload_n 2, 1) := by decide +kernel
theorem dX8_insideOf_40 : decode cX8_insideOf 40 = .ok (.land, 1) := by decide +kernel
theorem dX8_insideOf_41 : decode cX8_insideOf 41 = .ok (.lor, 1) := by decide +kernel
theorem dX8_insideOf_42 : decode cX8_insideOf 42 = .ok (.lstore 4, 2) := by decide +kernel
theorem dX8_insideOf_44 : decode cX8_insideOf 44 = .ok (.goto (-24), 3) := by decide +kernel
theorem dX8_insideOf_47 : decode cX8_insideOf 47 = .ok (.lload_n 2, 1) := by decide +kernel
theorem dX8_insideOf_48 : decode cX8_insideOf 48 = .ok (.lload 4, 2) := by decide +kernel
theorem dX8_insideOf_50 : decode cX8_insideOf 50 = .ok (.ldc2_w 77, 3) := by decide +kernel
theorem dX8_insideOf_53 : decode cX8_insideOf 53 = .ok (.lxor, 1) := by decide +kernel
theorem dX8_insideOf_54 : decode cX8_insideOf 54 = .ok (.land, 1) := by decide +kernel
theorem dX8_insideOf_55 : decode cX8_insideOf 55 = .ok (.lreturn, 1) := by decide +kernel
theorem dX8_brandOf_0 : decode cX8_brandOf 0 = .ok (.iconst 0, 1) := by decide +kernel
theorem dX8_brandOf_1 : decode cX8_brandOf 1 = .ok (.istore_n 2, 1) := by decide +kernel
theorem dX8_brandOf_2 : decode cX8_brandOf 2 = .ok (.iload_n 2, 1) := by decide +kernel
theorem dX8_brandOf_3 : decode cX8_brandOf 3 = .ok (.aload_n 0, 1) := by decide +kernel
theorem dX8_brandOf_4 : decode cX8_brandOf 4 = .ok (.getfield 9, 3) := by decide +kernel
theorem dX8_brandOf_7 : decode cX8_brandOf 7 = .ok (.iconst 2, 1) := by decide +kernel
theorem dX8_brandOf_8 : decode cX8_brandOf 8 = .ok (.iaload, 1) := by decide +kernel
theorem dX8_brandOf_9 : decode cX8_brandOf 9 = .ok (.if_icmp .ge 25, 3) := by decide +kernel
theorem dX8_brandOf_12 : decode cX8_brandOf 12 = .ok (.aload_n 0, 1) := by decide +kernel
theorem dX8_brandOf_13 : decode cX8_brandOf 13 = .ok (.iload_n 2, 1) := by decide +kernel
theorem dX8_brandOf_14 : decode cX8_brandOf 14 = .ok (.invokevirtual 85, 3) := by decide +kernel
theorem dX8_brandOf_17 : decode cX8_brandOf 17 = .ok (.iload_n 1, 1) := by decide +kernel
theorem dX8_brandOf_18 : decode cX8_brandOf 18 = .ok (.lushr, 1) := by decide +kernel
theorem dX8_brandOf_19 : decode cX8_brandOf 19 = .ok (.lconst 1, 1) := by decide +kernel
theorem dX8_brandOf_20 : decode cX8_brandOf 20 = .ok (.land, 1) := by decide +kernel
theorem dX8_brandOf_21 : decode cX8_brandOf 21 = .ok (.lconst 1, 1) := by decide +kernel
theorem dX8_brandOf_22 : decode cX8_brandOf 22 = .ok (.lcmp, 1) := by decide +kernel
theorem dX8_brandOf_23 : decode cX8_brandOf 23 = .ok (.ifCond .ne 5, 3) := by decide +kernel
theorem dX8_brandOf_26 : decode cX8_brandOf 26 = .ok (.iload_n 2, 1) := by decide +kernel
theorem dX8_brandOf_27 : decode cX8_brandOf 27 = .ok (.ireturn, 1) := by decide +kernel
theorem dX8_brandOf_28 : decode cX8_brandOf 28 = .ok (.iinc 2 1, 3) := by decide +kernel
theorem dX8_brandOf_31 : decode cX8_brandOf 31 = .ok (.goto (-29), 3) := by decide +kernel
theorem dX8_brandOf_34 : decode cX8_brandOf 34 = .ok (.iconst (-1), 1) := by decide +kernel
theorem dX8_brandOf_35 : decode cX8_brandOf 35 = .ok (.ireturn, 1) := by decide +kernel
theorem dX8_grazeOf_0 : decode cX8_grazeOf 0 = .ok (.aload_n 0, 1) := by decide +kernel
theorem dX8_grazeOf_1 : decode cX8_grazeOf 1 = .ok (.iconst 0, 1) := by decide +kernel
theorem dX8_grazeOf_2 : decode cX8_grazeOf 2 = .ok (.aload_n 0, 1) := by decide +kernel
theorem dX8_grazeOf_3 : decode cX8_grazeOf 3 = .ok (.iload_n 1, 1) := by decide +kernel
theorem dX8_grazeOf_4 : decode cX8_grazeOf 4 = .ok (.invokevirtual 85, 3) := by decide +kernel
theorem dX8_grazeOf_7 : decode cX8_grazeOf 7 = .ok (.invokestatic 88, 3) := by decide +kernel
theorem dX8_grazeOf_10 : decode cX8_grazeOf 10 = .ok (.aload_n 0, 1) := by decide +kernel
theorem dX8_grazeOf_11 : decode cX8_grazeOf 11 = .ok (.iload_n 1, 1) := by decide +kernel
theorem dX8_grazeOf_12 : decode cX8_grazeOf 12 = .ok (.iconst 3, 1) := by decide +kernel
theorem dX8_grazeOf_13 : decode cX8_grazeOf 13 = .ok (.invokevirtual 55, 3) := by decide +kernel
theorem dX8_grazeOf_16 : decode cX8_grazeOf 16 = .ok (.aload_n 0, 1) := by decide +kernel
theorem dX8_grazeOf_17 : decode cX8_grazeOf 17 = .ok (.iload_n 1, 1) := by decide +kernel
theorem dX8_grazeOf_18 : decode cX8_grazeOf 18 = .ok (.iconst 0, 1) := by decide +kernel
theorem dX8_grazeOf_19 : decode cX8_grazeOf 19 = .ok (.invokevirtual 55, 3) := by decide +kernel
theorem dX8_grazeOf_22 : decode cX8_grazeOf 22 = .ok (.invokevirtual 92, 3) := by decide +kernel
theorem dX8_grazeOf_25 : decode cX8_grazeOf 25 = .ok (.ireturn, 1) := by decide +kernel
theorem dX8_isKm_0 : decode cX8_isKm 0 = .ok (.iload_n 0, 1) := by decide +kernel
theorem dX8_isKm_1 : decode cX8_isKm 1 = .ok (.iconst 0, 1) := by decide +kernel
theorem dX8_isKm_2 : decode cX8_isKm 2 = .ok (.bipush 69, 2) := by decide +kernel
theorem dX8_isKm_4 : decode cX8_isKm 4 = .ok (.invokestatic 51, 3) := by decide +kernel
theorem dX8_isKm_7 : decode cX8_isKm 7 = .ok (.ireturn, 1) := by decide +kernel
theorem dX8_fence_0 : decode cX8_fence 0 = .ok (.iload_n 1, 1) := by decide +kernel
theorem dX8_fence_1 : decode cX8_fence 1 = .ok (.invokestatic 96, 3) := by decide +kernel
theorem dX8_fence_4 : decode cX8_fence 4 = .ok (.ifCond .eq 12, 3) := by decide +kernel
theorem dX8_fence_7 : decode cX8_fence 7 = .ok (.iload_n 2, 1) := by decide +kernel
theorem dX8_fence_8 : decode cX8_fence 8 = .ok (.iconst 0, 1) := by decide +kernel
theorem dX8_fence_9 : decode cX8_fence 9 = .ok (.iconst 3, 1) := by decide +kernel
theorem dX8_fence_10 : decode cX8_fence 10 = .ok (.invokestatic 51, 3) := by decide +kernel
theorem dX8_fence_13 : decode cX8_fence 13 = .ok (.ifCond .ne 10, 3) := by decide +kernel
theorem dX8_fence_16 : decode cX8_fence 16 = .ok (.aload_n 0, 1) := by decide +kernel
theorem dX8_fence_17 : decode cX8_fence 17 = .ok (.ldc 100, 2) := by decide +kernel
theorem dX8_fence_19 : decode cX8_fence 19 = .ok (.invokevirtual 101, 3) := by decide +kernel
theorem dX8_fence_22 : decode cX8_fence 22 = .ok (.ireturn, 1) := by decide +kernel
theorem dX8_fence_23 : decode cX8_fence 23 = .ok (.aload_n 0, 1) := by decide +kernel
theorem dX8_fence_24 : decode cX8_fence 24 = .ok (.getfield 9, 3) := by decide +kernel
theorem dX8_fence_27 : decode cX8_fence 27 = .ok (.iconst 2, 1) := by decide +kernel
theorem dX8_fence_28 : decode cX8_fence 28 = .ok (.iaload, 1) := by decide +kernel
theorem dX8_fence_29 : decode cX8_fence 29 = .ok (.istore_n 3, 1) := by decide +kernel
theorem dX8_fence_30 : decode cX8_fence 30 = .ok (.iload_n 3, 1) := by decide +kernel
theorem dX8_fence_31 : decode cX8_fence 31 = .ok (.iconst 4, 1) := by decide +kernel
theorem dX8_fence_32 : decode cX8_fence 32 = .ok (.if_icmp .ne 10, 3) := by decide +kernel
theorem dX8_fence_35 : decode cX8_fence 35 = .ok (.aload_n 0, 1) := by decide +kernel
theorem dX8_fence_36 : decode cX8_fence 36 = .ok (.ldc 105, 2) := by decide +kernel
theorem dX8_fence_38 : decode cX8_fence 38 = .ok (.invokevirtual 101, 3) := by decide +kernel
theorem dX8_fence_41 : decode cX8_fence 41 = .ok (.ireturn, 1) := by decide +kernel
theorem dX8_fence_42 : decode cX8_fence 42 = .ok (.aload_n 0, 1) := by decide +kernel
theorem dX8_fence_43 : decode cX8_fence 43 = .ok (.getfield 9, 3) := by decide +kernel
theorem dX8_fence_46 : decode cX8_fence 46 = .ok (.iconst 2, 1) := by decide +kernel
theorem dX8_fence_47 : decode cX8_fence 47 = .ok (.dup2, 1) := by decide +kernel
theorem dX8_fence_48 : decode cX8_fence 48 = .ok (.iaload, 1) := by decide +kernel
theorem dX8_fence_49 : decode cX8_fence 49 = .ok (.iconst 1, 1) := by decide +kernel
theorem dX8_fence_50 : decode cX8_fence 50 = .ok (.iadd, 1) := by decide +kernel
theorem dX8_fence_51 : decode cX8_fence 51 = .ok (.iastore, 1) := by decide +kernel
theorem dX8_fence_52 : decode cX8_fence 52 = .ok (.aload_n 0, 1) := by decide +kernel
theorem dX8_fence_53 : decode cX8_fence 53 = .ok (.iload_n 3, 1) := by decide +kernel
theorem dX8_fence_54 : decode cX8_fence 54 = .ok (.iconst 0, 1) := by decide +kernel
theorem dX8_fence_55 : decode cX8_fence 55 = .ok (.iload_n 1, 1) := by decide +kernel
theorem dX8_fence_56 : decode cX8_fence 56 = .ok (.bipush 10, 2) := by decide +kernel
theorem dX8_fence_58 : decode cX8_fence 58 = .ok (.idiv, 1) := by decide +kernel
theorem dX8_fence_59 : decode cX8_fence 59 = .ok (.invokevirtual 65, 3) := by decide +kernel
theorem dX8_fence_62 : decode cX8_fence 62 = .ok (.aload_n 0, 1) := by decide +kernel
theorem dX8_fence_63 : decode cX8_fence 63 = .ok (.iload_n 3, 1) := by decide +kernel
theorem dX8_fence_64 : decode cX8_fence 64 = .ok (.iconst 1, 1) := by decide +kernel
theorem dX8_fence_65 : decode cX8_fence 65 = .ok (.iload_n 1, 1) := by decide +kernel
theorem dX8_fence_66 : decode cX8_fence 66 = .ok (.bipush 10, 2) := by decide +kernel
theorem dX8_fence_68 : decode cX8_fence 68 = .ok (.irem, 1) := by decide +kernel
theorem dX8_fence_69 : decode cX8_fence 69 = .ok (.invokevirtual 65, 3) := by decide +kernel
theorem dX8_fence_72 : decode cX8_fence 72 = .ok (.aload_n 0, 1) := by decide +kernel
theorem dX8_fence_73 : decode cX8_fence 73 = .ok (.iload_n 3, 1) := by decide +kernel
theorem dX8_fence_74 : decode cX8_fence 74 = .ok (.iconst 2, 1) := by decide +kernel
theorem dX8_fence_75 : decode cX8_fence 75 = .ok (.iload_n 2, 1) := by decide +kernel
theorem dX8_fence_76 : decode cX8_fence 76 = .ok (.invokevirtual 65, 3) := by decide +kernel
theorem dX8_fence_79 : decode cX8_fence 79 = .ok (.aload_n 0, 1) := by decide +kernel
theorem dX8_fence_80 : decode cX8_fence 80 = .ok (.iload_n 3, 1) := by decide +kernel
theorem dX8_fence_81 : decode cX8_fence 81 = .ok (.iconst 3, 1) := by decide +kernel
theorem dX8_fence_82 : decode cX8_fence 82 = .ok (.iconst 0, 1) := by decide +kernel
theorem dX8_fence_83 : decode cX8_fence 83 = .ok (.invokevirtual 65, 3) := by decide +kernel
theorem dX8_fence_86 : decode cX8_fence 86 = .ok (.aload_n 0, 1) := by decide +kernel
theorem dX8_fence_87 : decode cX8_fence 87 = .ok (.iload_n 3, 1) := by decide +kernel
theorem dX8_fence_88 : decode cX8_fence 88 = .ok (.iconst 4, 1) := by decide +kernel
theorem dX8_fence_89 : decode cX8_fence 89 = .ok (.iconst 0, 1) := by decide +kernel
theorem dX8_fence_90 : decode cX8_fence 90 = .ok (.invokevirtual 65, 3) := by decide +kernel
theorem dX8_fence_93 : decode cX8_fence 93 = .ok (.iload_n 3, 1) := by decide +kernel
theorem dX8_fence_94 : decode cX8_fence 94 = .ok (.ireturn, 1) := by decide +kernel
theorem dX8_post_0 : decode cX8_post 0 = .ok (.aload_n 0, 1) := by decide +kernel
theorem dX8_post_1 : decode cX8_post 1 = .ok (.iload_n 1, 1) := by decide +kernel
theorem dX8_post_2 : decode cX8_post 2 = .ok (.invokevirtual 106, 3) := by decide +kernel
theorem dX8_post_5 : decode cX8_post 5 = .ok (.ifCond .eq 10, 3) := by decide +kernel
theorem dX8_post_8 : decode cX8_post 8 = .ok (.iload_n 2, 1) := by decide +kernel
theorem dX8_post_9 : decode cX8_post 9 = .ok (.invokestatic 109, 3) := by decide +kernel
theorem dX8_post_12 : decode cX8_post 12 = .ok (.ifCond .ne 10, 3) := by decide +kernel
theorem dX8_post_15 : decode cX8_post 15 = .ok (.aload_n 0, 1) := by decide +kernel
theorem dX8_post_16 : decode cX8_post 16 = .ok (.ldc 100, 2) := by decide +kernel
theorem dX8_post_18 : decode cX8_post 18 = .ok (.invokevirtual 101, 3) := by decide +kernel
theorem dX8_post_21 : decode cX8_post 21 = .ok (.ireturn, 1) := by decide +kernel
theorem dX8_post_22 : decode cX8_post 22 = .ok (.aload_n 0, 1) := by decide +kernel
theorem dX8_post_23 : decode cX8_post 23 = .ok (.iload_n 1, 1) := by decide +kernel
theorem dX8_post_24 : decode cX8_post 24 = .ok (.iconst 3, 1) := by decide +kernel
theorem dX8_post_25 : decode cX8_post 25 = .ok (.invokevirtual 55, 3) := by decide +kernel
theorem dX8_post_28 : decode cX8_post 28 = .ok (.istore_n 3, 1) := by decide +kernel
theorem dX8_post_29 : decode cX8_post 29 = .ok (.iload_n 3, 1) := by decide +kernel
theorem dX8_post_30 : decode cX8_post 30 = .ok (.bipush 8, 2) := by decide +kernel
theorem dX8_post_32 : decode cX8_post 32 = .ok (.if_icmp .ne 10, 3) := by decide +kernel
theorem dX8_post_35 : decode cX8_post 35 = .ok (.aload_n 0, 1) := by decide +kernel
theorem dX8_post_36 : decode cX8_post 36 = .ok (.ldc 105, 2) := by decide +kernel
theorem dX8_post_38 : decode cX8_post 38 = .ok (.invokevirtual 101, 3) := by decide +kernel
theorem dX8_post_41 : decode cX8_post 41 = .ok (.ireturn, 1) := by decide +kernel
theorem dX8_post_42 : decode cX8_post 42 = .ok (.aload_n 0, 1) := by decide +kernel
theorem dX8_post_43 : decode cX8_post 43 = .ok (.iload_n 1, 1) := by decide +kernel
theorem dX8_post_44 : decode cX8_post 44 = .ok (.iconst 5, 1) := by decide +kernel
theorem dX8_post_45 : decode cX8_post 45 = .ok (.iload_n 3, 1) := by decide +kernel
theorem dX8_post_46 : decode cX8_post 46 = .ok (.iadd, 1) := by decide +kernel
theorem dX8_post_47 : decode cX8_post 47 = .ok (.iload_n 2, 1) := by decide +kernel
theorem dX8_post_48 : decode cX8_post 48 = .ok (.invokevirtual 65, 3) := by decide +kernel
theorem dX8_post_51 : decode cX8_post 51 = .ok (.aload_n 0, 1) := by decide +kernel
theorem dX8_post_52 : decode cX8_post 52 = .ok (.iload_n 1, 1) := by decide +kernel
theorem dX8_post_53 : decode cX8_post 53 = .ok (.iconst 3, 1) := by decide +kernel
theorem dX8_post_54 : decode cX8_post 54 = .ok (.iload_n 3, 1) := by decide +kernel
theorem dX8_post_55 : decode cX8_post 55 = .ok (.iconst 1, 1) := by decide +kernel
theorem dX8_post_56 : decode cX8_post 56 = .ok (.iadd, 1) := by decide +kernel
theorem dX8_post_57 : decode cX8_post 57 = .ok (.invokevirtual 65, 3) := by decide +kernel
theorem dX8_post_60 : decode cX8_post 60 = .ok (.iload_n 3, 1) := by decide +kernel
theorem dX8_post_61 : decode cX8_post 61 = .ok (.iconst 1, 1) := by decide +kernel
theorem dX8_post_62 : decode cX8_post 62 = .ok (.iadd, 1) := by decide +kernel
theorem dX8_post_63 : decode cX8_post 63 = .ok (.ireturn, 1) := by decide +kernel
theorem dX8_fenceIs_0 : decode cX8_fenceIs 0 = .ok (.aload_n 0, 1) := by decide +kernel
theorem dX8_fenceIs_1 : decode cX8_fenceIs 1 = .ok (.iload_n 1, 1) := by decide +kernel
theorem dX8_fenceIs_2 : decode cX8_fenceIs 2 = .ok (.invokevirtual 106, 3) := by decide +kernel
theorem dX8_fenceIs_5 : decode cX8_fenceIs 5 = .ok (.ifCond .eq 13, 3) := by decide +kernel
theorem dX8_fenceIs_8 : decode cX8_fenceIs 8 = .ok (.iload_n 2, 1) := by decide +kernel
theorem dX8_fenceIs_9 : decode cX8_fenceIs 9 = .ok (.iconst 0, 1) := by decide +kernel
theorem dX8_fenceIs_10 : decode cX8_fenceIs 10 = .ok (.bipush 6, 2) := by decide +kernel
theorem dX8_fenceIs_12 : decode cX8_fenceIs 12 = .ok (.invokestatic 51, 3) := by decide +kernel
theorem dX8_fenceIs_15 : decode cX8_fenceIs 15 = .ok (.ifCond .ne 10, 3) := by decide +kernel
theorem dX8_fenceIs_18 : decode cX8_fenceIs 18 = .ok (.aload_n 0, 1) := by decide +kernel
theorem dX8_fenceIs_19 : decode cX8_fenceIs 19 = .ok (.ldc 100, 2) := by decide +kernel
theorem dX8_fenceIs_21 : decode cX8_fenceIs 21 = .ok (.invokevirtual 101, 3) := by decide +kernel
theorem dX8_fenceIs_24 : decode cX8_fenceIs 24 = .ok (.ireturn, 1) := by decide +kernel
theorem dX8_fenceIs_25 : decode cX8_fenceIs 25 = .ok (.iload_n 2, 1) := by decide +kernel
theorem dX8_fenceIs_26 : decode cX8_fenceIs 26 = .ok (.iconst 5, 1) := by decide +kernel
theorem dX8_fenceIs_27 : decode cX8_fenceIs 27 = .ok (.if_icmp .ge 12, 3) := by decide +kernel
theorem dX8_fenceIs_30 : decode cX8_fenceIs 30 = .ok (.aload_n 0, 1) := by decide +kernel
theorem dX8_fenceIs_31 : decode cX8_fenceIs 31 = .ok (.iload_n 1, 1) := by decide +kernel
theorem dX8_fenceIs_32 : decode cX8_fenceIs 32 = .ok (.iload_n 2, 1) := by decide +kernel
theorem dX8_fenceIs_33 : decode cX8_fenceIs 33 = .ok (.invokevirtual 55, 3) := by decide +kernel
theorem dX8_fenceIs_36 : decode cX8_fenceIs 36 = .ok (.goto 24, 3) := by decide +kernel
theorem dX8_fenceIs_39 : decode cX8_fenceIs 39 = .ok (.iload_n 2, 1) := by decide +kernel
theorem dX8_fenceIs_40 : decode cX8_fenceIs 40 = .ok (.iconst 5, 1) := by decide +kernel
theorem dX8_fenceIs_41 : decode cX8_fenceIs 41 = .ok (.if_icmp .ne 14, 3) := by decide +kernel
theorem dX8_fenceIs_44 : decode cX8_fenceIs 44 = .ok (.aload_n 0, 1) := by decide +kernel
theorem dX8_fenceIs_45 : decode cX8_fenceIs 45 = .ok (.iload_n 1, 1) := by decide +kernel
theorem dX8_fenceIs_46 : decode cX8_fenceIs 46 = .ok (.invokevirtual 85, 3) := by decide +kernel
theorem dX8_fenceIs_49 : decode cX8_fenceIs 49 = .ok (.invokestatic 88, 3) := by decide +kernel
theorem dX8_fenceIs_52 : decode cX8_fenceIs 52 = .ok (.goto 8, 3) := by decide +kernel
theorem dX8_fenceIs_55 : decode cX8_fenceIs 55 = .ok (.aload_n 0, 1) := by decide +kernel
theorem dX8_fenceIs_56 : decode cX8_fenceIs 56 = .ok (.iload_n 1, 1) := by decide +kernel
theorem dX8_fenceIs_57 : decode cX8_fenceIs 57 = .ok (.invokevirtual 112, 3) := by decide +kernel
theorem dX8_fenceIs_60 : decode cX8_fenceIs 60 = .ok (.ireturn, 1) := by decide +kernel
theorem dX8_isPost_0 : decode cX8_isPost 0 = .ok (.aload_n 0, 1) := by decide +kernel
theorem dX8_isPost_1 : decode cX8_isPost 1 = .ok (.iload_n 1, 1) := by decide +kernel
theorem dX8_isPost_2 : decode cX8_isPost 2 = .ok (.invokevirtual 106, 3) := by decide +kernel
theorem dX8_isPost_5 : decode cX8_isPost 5 = .ok (.ifCond .eq 23, 3) := by decide +kernel
theorem dX8_isPost_8 : decode cX8_isPost 8 = .ok (.iload_n 2, 1) := by decide +kernel
theorem dX8_isPost_9 : decode cX8_isPost 9 = .ok (.iconst 0, 1) := by decide +kernel
theorem dX8_isPost_10 : decode cX8_isPost 10 = .ok (.aload_n 0, 1) := by decide +kernel
theorem dX8_isPost_11 : decode cX8_isPost 11 = .ok (.iload_n 1, 1) := by decide +kernel
theorem dX8_isPost_12 : decode cX8_isPost 12 = .ok (.iconst 3, 1) := by decide +kernel
theorem dX8_isPost_13 : decode cX8_isPost 13 = .ok (.invokevirtual 55, 3) := by decide +kernel
theorem dX8_isPost_16 : decode cX8_isPost 16 = .ok (.iconst 1, 1) := by decide +kernel
theorem dX8_isPost_17 : decode cX8_isPost 17 = .ok (.isub, 1) := by decide +kernel
theorem dX8_isPost_18 : decode cX8_isPost 18 = .ok (.invokestatic 51, 3) := by decide +kernel
theorem dX8_isPost_21 : decode cX8_isPost 21 = .ok (.ifCond .eq 7, 3) := by decide +kernel
theorem dX8_isPost_24 : decode cX8_isPost 24 = .ok (.iconst 1, 1) := by decide +kernel
theorem dX8_isPost_25 : decode cX8_isPost 25 = .ok (.goto 4, 3) := by decide +kernel
theorem dX8_isPost_28 : decode cX8_isPost 28 = .ok (.iconst 0, 1) := by decide +kernel
theorem dX8_isPost_29 : decode cX8_isPost 29 = .ok (.ireturn, 1) := by decide +kernel
theorem dX8_at_0 : decode cX8_at 0 = .ok (.aload_n 0, 1) := by decide +kernel
theorem dX8_at_1 : decode cX8_at 1 = .ok (.iload_n 1, 1) := by decide +kernel
theorem dX8_at_2 : decode cX8_at 2 = .ok (.iload_n 2, 1) := by decide +kernel
theorem dX8_at_3 : decode cX8_at 3 = .ok (.invokevirtual 115, 3) := by decide +kernel
theorem dX8_at_6 : decode cX8_at 6 = .ok (.ifCond .eq 14, 3) := by decide +kernel
theorem dX8_at_9 : decode cX8_at 9 = .ok (.aload_n 0, 1) := by decide +kernel
theorem dX8_at_10 : decode cX8_at 10 = .ok (.iload_n 1, 1) := by decide +kernel
theorem dX8_at_11 : decode cX8_at 11 = .ok (.iconst 5, 1) := by decide +kernel
theorem dX8_at_12 : decode cX8_at 12 = .ok (.iload_n 2, 1) := by decide +kernel
theorem dX8_at_13 : decode cX8_at 13 = .ok (.iadd, 1) := by decide +kernel
theorem dX8_at_14 : decode cX8_at 14 = .ok (.invokevirtual 55, 3) := by decide +kernel
theorem dX8_at_17 : decode cX8_at 17 = .ok (.goto 9, 3) := by decide +kernel
theorem dX8_at_20 : decode cX8_at 20 = .ok (.aload_n 0, 1) := by decide +kernel
theorem dX8_at_21 : decode cX8_at 21 = .ok (.ldc 100, 2) := by decide +kernel
theorem dX8_at_23 : decode cX8_at 23 = .ok (.invokevirtual 101, 3) := by decide +kernel
theorem dX8_at_26 : decode cX8_at 26 = .ok (.ireturn, 1) := by decide +kernel
theorem dX8_heads_0 : decode cX8_heads 0 = .ok (.aload_n 0, 1) := by decide +kernel
theorem dX8_heads_1 : decode cX8_heads 1 = .ok (.iload_n 1, 1) := by decide +kernel
theorem dX8_heads_2 : decode cX8_heads 2 = .ok (.iload_n 2, 1) := by decide +kernel
theorem dX8_heads_3 : decode cX8_heads 3 = .ok (.invokevirtual 115, 3) := by decide +kernel
theorem dX8_heads_6 : decode cX8_heads 6 = .ok (.ifCond .eq 12, 3) := by decide +kernel
theorem dX8_heads_9 : decode cX8_heads 9 = .ok (.aload_n 0, 1) := by decide +kernel
theorem dX8_heads_10 : decode cX8_heads 10 = .ok (.iload_n 1, 1) := by decide +kernel
theorem dX8_heads_11 : decode cX8_heads 11 = .ok (.iload_n 2, 1) := by decide +kernel
theorem dX8_heads_12 : decode cX8_heads 12 = .ok (.invokevirtual 59, 3) := by decide +kernel
theorem dX8_heads_15 : decode cX8_heads 15 = .ok (.goto 9, 3) := by decide +kernel
theorem dX8_heads_18 : decode cX8_heads 18 = .ok (.aload_n 0, 1) := by decide +kernel
theorem dX8_heads_19 : decode cX8_heads 19 = .ok (.ldc 100, 2) := by decide +kernel
theorem dX8_heads_21 : decode cX8_heads 21 = .ok (.invokevirtual 101, 3) := by decide +kernel
theorem dX8_heads_24 : decode cX8_heads 24 = .ok (.ireturn, 1) := by decide +kernel
theorem dX8_become_0 : decode cX8_become 0 = .ok (.aload_n 0, 1) := by decide +kernel
theorem dX8_become_1 : decode cX8_become 1 = .ok (.iload_n 1, 1) := by decide +kernel
theorem dX8_become_2 : decode cX8_become 2 = .ok (.invokevirtual 106, 3) := by decide +kernel
theorem dX8_become_5 : decode cX8_become 5 = .ok (.ifCond .eq 10, 3) := by decide +kernel
theorem dX8_become_8 : decode cX8_become 8 = .ok (.iload_n 2, 1) := by decide +kernel
theorem dX8_become_9 : decode cX8_become 9 = .ok (.invokestatic 96, 3) := by decide +kernel
theorem dX8_become_12 : decode cX8_become 12 = .ok (.ifCond .ne 10, 3) := by decide +kernel
theorem dX8_become_15 : decode cX8_become 15 = .ok (.aload_n 0, 1) := by decide +kernel
theorem dX8_become_16 : decode cX8_become 16 = .ok (.ldc 100, 2) := by decide +kernel
theorem dX8_become_18 : decode cX8_become 18 = .ok (.invokevirtual 101, 3) := by decide +kernel
theorem dX8_become_21 : decode cX8_become 21 = .ok (.ireturn, 1) := by decide +kernel
theorem dX8_become_22 : decode cX8_become 22 = .ok (.aload_n 0, 1) := by decide +kernel
theorem dX8_become_23 : decode cX8_become 23 = .ok (.iload_n 1, 1) := by decide +kernel
theorem dX8_become_24 : decode cX8_become 24 = .ok (.iconst 1, 1) := by decide +kernel
theorem dX8_become_25 : decode cX8_become 25 = .ok (.iload_n 2, 1) := by decide +kernel
theorem dX8_become_26 : decode cX8_become 26 = .ok (.bipush 10, 2) := by decide +kernel
theorem dX8_become_28 : decode cX8_become 28 = .ok (.irem, 1) := by decide +kernel
theorem dX8_become_29 : decode cX8_become 29 = .ok (.invokevirtual 65, 3) := by decide +kernel
theorem dX8_become_32 : decode cX8_become 32 = .ok (.aload_n 0, 1) := by decide +kernel
theorem dX8_become_33 : decode cX8_become 33 = .ok (.bipush 6, 2) := by decide +kernel
theorem dX8_become_35 : decode cX8_become 35 = .ok (.bipush 13, 2) := by decide +kernel
theorem dX8_become_37 : decode cX8_become 37 = .ok (.iload_n 1, 1) := by decide +kernel
theorem dX8_become_38 : decode cX8_become 38 = .ok (.imul, 1) := by decide +kernel
theorem dX8_become_39 : decode cX8_become 39 = .ok (.iadd, 1) := by decide +kernel
theorem dX8_become_40 : decode cX8_become 40 = .ok (.iload_n 2, 1) := by decide +kernel
theorem dX8_become_41 : decode cX8_become 41 = .ok (.bipush 10, 2) := by decide +kernel
theorem dX8_become_43 : decode cX8_become 43 = .ok (.idiv, 1) := by decide +kernel
theorem dX8_become_44 : decode cX8_become 44 = .ok (.invokevirtual 119, 3) := by decide +kernel
theorem dX8_become_47 : decode cX8_become 47 = .ok (.ireturn, 1) := by decide +kernel
theorem dX8_as_0 : decode cX8_as 0 = .ok (.aload_n 0, 1) := by decide +kernel
theorem dX8_as_1 : decode cX8_as 1 = .ok (.iload_n 1, 1) := by decide +kernel
theorem dX8_as_2 : decode cX8_as 2 = .ok (.invokevirtual 106, 3) := by decide +kernel
theorem dX8_as_5 : decode cX8_as 5 = .ok (.ifCond .eq 13, 3) := by decide +kernel
theorem dX8_as_8 : decode cX8_as 8 = .ok (.iload_n 2, 1) := by decide +kernel
theorem dX8_as_9 : decode cX8_as 9 = .ok (.iconst 0, 1) := by decide +kernel
theorem dX8_as_10 : decode cX8_as 10 = .ok (.bipush 6, 2) := by decide +kernel
theorem dX8_as_12 : decode cX8_as 12 = .ok (.invokestatic 51, 3) := by decide +kernel
theorem dX8_as_15 : decode cX8_as 15 = .ok (.ifCond .ne 10, 3) := by decide +kernel
theorem dX8_as_18 : decode cX8_as 18 = .ok (.aload_n 0, 1) := by decide +kernel
theorem dX8_as_19 : decode cX8_as 19 = .ok (.ldc 100, 2) := by decide +kernel
theorem dX8_as_21 : decode cX8_as 21 = .ok (.invokevirtual 101, 3) := by decide +kernel
theorem dX8_as_24 : decode cX8_as 24 = .ok (.ireturn, 1) := by decide +kernel
theorem dX8_as_25 : decode cX8_as 25 = .ok (.aload_n 0, 1) := by decide +kernel
theorem dX8_as_26 : decode cX8_as 26 = .ok (.iload_n 1, 1) := by decide +kernel
theorem dX8_as_27 : decode cX8_as 27 = .ok (.iconst 0, 1) := by decide +kernel
theorem dX8_as_28 : decode cX8_as 28 = .ok (.invokevirtual 55, 3) := by decide +kernel
theorem dX8_as_31 : decode cX8_as 31 = .ok (.istore_n 3, 1) := by decide +kernel
theorem dX8_as_32 : decode cX8_as 32 = .ok (.iload_n 2, 1) := by decide +kernel
theorem dX8_as_33 : decode cX8_as 33 = .ok (.ifCond .eq 28, 3) := by decide +kernel
theorem dX8_as_36 : decode cX8_as 36 = .ok (.iload_n 2, 1) := by decide +kernel
theorem dX8_as_37 : decode cX8_as 37 = .ok (.iload_n 3, 1) := by decide +kernel
theorem dX8_as_38 : decode cX8_as 38 = .ok (.if_icmp .eq 23, 3) := by decide +kernel
theorem dX8_as_41 : decode cX8_as 41 = .ok (.iload_n 2, 1) := by decide +kernel
theorem dX8_as_42 : decode cX8_as 42 = .ok (.iconst 1, 1) := by decide +kernel
theorem dX8_as_43 : decode cX8_as 43 = .ok (.if_icmp .ne 8, 3) := by decide +kernel
theorem dX8_as_46 : decode cX8_as 46 = .ok (.iload_n 3, 1) := by decide +kernel
theorem dX8_as_47 : decode cX8_as 47 = .ok (.iconst 4, 1) := by decide +kernel
theorem dX8_as_48 : decode cX8_as 48 = .ok (.if_icmp .eq 13, 3) := by decide +kernel
theorem dX8_as_51 : decode cX8_as 51 = .ok (.iload_n 2, 1) := by decide +kernel
theorem dX8_as_52 : decode cX8_as 52 = .ok (.iconst 2, 1) := by decide +kernel
theorem dX8_as_53 : decode cX8_as 53 = .ok (.if_icmp .ne 12, 3) := by decide +kernel
theorem dX8_as_56 : decode cX8_as 56 = .ok (.iload_n 3, 1) := by decide +kernel
theorem dX8_as_57 : decode cX8_as 57 = .ok (.iconst 5, 1) := by decide +kernel
theorem dX8_as_58 : decode cX8_as 58 = .ok (.if_icmp .ne 7, 3) := by decide +kernel
theorem dX8_as_61 : decode cX8_as 61 = .ok (.iconst 1, 1) := by decide +kernel
theorem dX8_as_62 : decode cX8_as 62 = .ok (.goto 4, 3) := by decide +kernel
theorem dX8_as_65 : decode cX8_as 65 = .ok (.iconst 0, 1) := by decide +kernel
theorem dX8_as_66 : decode cX8_as 66 = .ok (.istore 4, 2) := by decide +kernel
theorem dX8_as_68 : decode cX8_as 68 = .ok (.iload 4, 2) := by decide +kernel
theorem dX8_as_70 : decode cX8_as 70 = .ok (.ifCond .eq 12, 3) := by decide +kernel
theorem dX8_as_73 : decode cX8_as 73 = .ok (.aload_n 0, 1) := by decide +kernel
theorem dX8_as_74 : decode cX8_as 74 = .ok (.iload_n 1, 1) := by decide +kernel
theorem dX8_as_75 : decode cX8_as 75 = .ok (.iconst 1, 1) := by decide +kernel
theorem dX8_as_76 : decode cX8_as 76 = .ok (.invokevirtual 55, 3) := by decide +kernel
theorem dX8_as_79 : decode cX8_as 79 = .ok (.goto 9, 3) := by decide +kernel
theorem dX8_as_82 : decode cX8_as 82 = .ok (.aload_n 0, 1) := by decide +kernel
theorem dX8_as_83 : decode cX8_as 83 = .ok (.ldc 122, 2) := by decide +kernel
theorem dX8_as_85 : decode cX8_as 85 = .ok (.invokevirtual 101, 3) := by decide +kernel
theorem dX8_as_88 : decode cX8_as 88 = .ok (.ireturn, 1) := by decide +kernel
theorem dX8_turn_0 : decode cX8_turn 0 = .ok (.aload_n 0, 1) := by decide +kernel
theorem dX8_turn_1 : decode cX8_turn 1 = .ok (.iload_n 1, 1) := by decide +kernel
theorem dX8_turn_2 : decode cX8_turn 2 = .ok (.invokevirtual 106, 3) := by decide +kernel
theorem dX8_turn_5 : decode cX8_turn 5 = .ok (.ifCond .eq 29, 3) := by decide +kernel
theorem dX8_turn_8 : decode cX8_turn 8 = .ok (.iload_n 2, 1) := by decide +kernel
theorem dX8_turn_9 : decode cX8_turn 9 = .ok (.iconst 0, 1) := by decide +kernel
theorem dX8_turn_10 : decode cX8_turn 10 = .ok (.iconst 3, 1) := by decide +kernel
theorem dX8_turn_11 : decode cX8_turn 11 = .ok (.invokestatic 51, 3) := by decide +kernel
theorem dX8_turn_14 : decode cX8_turn 14 = .ok (.ifCond .eq 20, 3) := by decide +kernel
theorem dX8_turn_17 : decode cX8_turn 17 = .ok (.aload_n 0, 1) := by decide +kernel
theorem dX8_turn_18 : decode cX8_turn 18 = .ok (.bipush 6, 2) := by decide +kernel
theorem dX8_turn_20 : decode cX8_turn 20 = .ok (.bipush 13, 2) := by decide +kernel
theorem dX8_turn_22 : decode cX8_turn 22 = .ok (.iload_n 1, 1) := by decide +kernel
theorem dX8_turn_23 : decode cX8_turn 23 = .ok (.imul, 1) := by decide +kernel
theorem dX8_turn_24 : decode cX8_turn 24 = .ok (.iadd, 1) := by decide +kernel
theorem dX8_turn_25 : decode cX8_turn 25 = .ok (.iconst 2, 1) := by decide +kernel
theorem dX8_turn_26 : decode cX8_turn 26 = .ok (.iadd, 1) := by decide +kernel
theorem dX8_turn_27 : decode cX8_turn 27 = .ok (.iload_n 2, 1) := by decide +kernel
theorem dX8_turn_28 : decode cX8_turn 28 = .ok (.invokevirtual 119, 3) := by decide +kernel
theorem dX8_turn_31 : decode cX8_turn 31 = .ok (.goto 9, 3) := by decide +kernel
theorem dX8_turn_34 : decode cX8_turn 34 = .ok (.aload_n 0, 1) := by decide +kernel
theorem dX8_turn_35 : decode cX8_turn 35 = .ok (.ldc 100, 2) := by decide +kernel
theorem dX8_turn_37 : decode cX8_turn 37 = .ok (.invokevirtual 101, 3) := by decide +kernel
theorem dX8_turn_40 : decode cX8_turn 40 = .ok (.ireturn, 1) := by decide +kernel
theorem dX8_cut_0 : decode cX8_cut 0 = .ok (.aload_n 0, 1) := by decide +kernel
theorem dX8_cut_1 : decode cX8_cut 1 = .ok (.iload_n 1, 1) := by decide +kernel
theorem dX8_cut_2 : decode cX8_cut 2 = .ok (.invokevirtual 106, 3) := by decide +kernel
theorem dX8_cut_5 : decode cX8_cut 5 = .ok (.ifCond .ne 10, 3) := by decide +kernel
theorem dX8_cut_8 : decode cX8_cut 8 = .ok (.aload_n 0, 1) := by decide +kernel
theorem dX8_cut_9 : decode cX8_cut 9 = .ok (.ldc 100, 2) := by decide +kernel
theorem dX8_cut_11 : decode cX8_cut 11 = .ok (.invokevirtual 101, 3) := by decide +kernel
theorem dX8_cut_14 : decode cX8_cut 14 = .ok (.ireturn, 1) := by decide +kernel
theorem dX8_cut_15 : decode cX8_cut 15 = .ok (.aload_n 0, 1) := by decide +kernel
theorem dX8_cut_16 : decode cX8_cut 16 = .ok (.iload_n 1, 1) := by decide +kernel
theorem dX8_cut_17 : decode cX8_cut 17 = .ok (.iconst 3, 1) := by decide +kernel
theorem dX8_cut_18 : decode cX8_cut 18 = .ok (.invokevirtual 55, 3) := by decide +kernel
theorem dX8_cut_21 : decode cX8_cut 21 = .ok (.istore_n 2, 1) := by decide +kernel
theorem dX8_cut_22 : decode cX8_cut 22 = .ok (.iload_n 2, 1) := by decide +kernel
theorem dX8_cut_23 : decode cX8_cut 23 = .ok (.ifCond .ne 10, 3) := by decide +kernel
theorem dX8_cut_26 : decode cX8_cut 26 = .ok (.aload_n 0, 1) := by decide +kernel
theorem dX8_cut_27 : decode cX8_cut 27 = .ok (.ldc 123, 2) := by decide +kernel
theorem dX8_cut_29 : decode cX8_cut 29 = .ok (.invokevirtual 101, 3) := by decide +kernel
theorem dX8_cut_32 : decode cX8_cut 32 = .ok (.ireturn, 1) := by decide +kernel
theorem dX8_cut_33 : decode cX8_cut 33 = .ok (.aload_n 0, 1) := by decide +kernel
theorem dX8_cut_34 : decode cX8_cut 34 = .ok (.iload_n 1, 1) := by decide +kernel
theorem dX8_cut_35 : decode cX8_cut 35 = .ok (.iconst 3, 1) := by decide +kernel
theorem dX8_cut_36 : decode cX8_cut 36 = .ok (.iload_n 2, 1) := by decide +kernel
theorem dX8_cut_37 : decode cX8_cut 37 = .ok (.iconst 1, 1) := by decide +kernel
theorem dX8_cut_38 : decode cX8_cut 38 = .ok (.isub, 1) := by decide +kernel
theorem dX8_cut_39 : decode cX8_cut 39 = .ok (.invokevirtual 65, 3) := by decide +kernel
theorem dX8_cut_42 : decode cX8_cut 42 = .ok (.iload_n 2, 1) := by decide +kernel
theorem dX8_cut_43 : decode cX8_cut 43 = .ok (.iconst 1, 1) := by decide +kernel
theorem dX8_cut_44 : decode cX8_cut 44 = .ok (.isub, 1) := by decide +kernel
theorem dX8_cut_45 : decode cX8_cut 45 = .ok (.ireturn, 1) := by decide +kernel
theorem dX8_lay_0 : decode cX8_lay 0 = .ok (.iload_n 1, 1) := by decide +kernel
theorem dX8_lay_1 : decode cX8_lay 1 = .ok (.iconst 0, 1) := by decide +kernel
theorem dX8_lay_2 : decode cX8_lay 2 = .ok (.iconst 1, 1) := by decide +kernel
theorem dX8_lay_3 : decode cX8_lay 3 = .ok (.invokestatic 51, 3) := by decide +kernel
theorem dX8_lay_6 : decode cX8_lay 6 = .ok (.ifCond .eq 23, 3) := by decide +kernel
theorem dX8_lay_9 : decode cX8_lay 9 = .ok (.iload_n 2, 1) := by decide +kernel
theorem dX8_lay_10 : decode cX8_lay 10 = .ok (.invokestatic 109, 3) := by decide +kernel
theorem dX8_lay_13 : decode cX8_lay 13 = .ok (.ifCond .eq 16, 3) := by decide +kernel
theorem dX8_lay_16 : decode cX8_lay 16 = .ok (.iload_n 3, 1) := by decide +kernel
theorem dX8_lay_17 : decode cX8_lay 17 = .ok (.iconst 0, 1) := by decide +kernel
theorem dX8_lay_18 : decode cX8_lay 18 = .ok (.iconst 1, 1) := by decide +kernel
theorem dX8_lay_19 : decode cX8_lay 19 = .ok (.invokestatic 51, 3) := by decide +kernel
theorem dX8_lay_22 : decode cX8_lay 22 = .ok (.ifCond .eq 7, 3) := by decide +kernel
theorem dX8_lay_25 : decode cX8_lay 25 = .ok (.iconst 1, 1) := by decide +kernel
theorem dX8_lay_26 : decode cX8_lay 26 = .ok (.goto 4, 3) := by decide +kernel
theorem dX8_lay_29 : decode cX8_lay 29 = .ok (.iconst 0, 1) := by decide +kernel
theorem dX8_lay_30 : decode cX8_lay 30 = .ok (.istore 4, 2) := by decide +kernel
theorem dX8_lay_32 : decode cX8_lay 32 = .ok (.iload 4, 2) := by decide +kernel
theorem dX8_lay_34 : decode cX8_lay 34 = .ok (.ifCond .eq 25, 3) := by decide +kernel
theorem dX8_lay_37 : decode cX8_lay 37 = .ok (.aload_n 0, 1) := by decide +kernel
theorem dX8_lay_38 : decode cX8_lay 38 = .ok (.iload_n 1, 1) := by decide +kernel
theorem dX8_lay_39 : decode cX8_lay 39 = .ok (.ifCond .ne 8, 3) := by decide +kernel
theorem dX8_lay_42 : decode cX8_lay 42 = .ok (.bipush 70, 2) := by decide +kernel
theorem dX8_lay_44 : decode cX8_lay 44 = .ok (.goto 6, 3) := by decide +kernel
theorem dX8_lay_47 : decode cX8_lay 47 = .ok (.sipush 134, 3) := by decide +kernel
theorem dX8_lay_50 : decode cX8_lay 50 = .ok (.iload_n 2, 1) := by decide +kernel
theorem dX8_lay_51 : decode cX8_lay 51 = .ok (.iadd, 1) := by decide +kernel
theorem dX8_lay_52 : decode cX8_lay 52 = .ok (.iload_n 3, 1) := by decide +kernel
theorem dX8_lay_53 : decode cX8_lay 53 = .ok (.invokevirtual 119, 3) := by decide +kernel
theorem dX8_lay_56 : decode cX8_lay 56 = .ok (.goto 9, 3) := by decide +kernel
theorem dX8_lay_59 : decode cX8_lay 59 = .ok (.aload_n 0, 1) := by decide +kernel
theorem dX8_lay_60 : decode cX8_lay 60 = .ok (.ldc 100, 2) := by decide +kernel
theorem dX8_lay_62 : decode cX8_lay 62 = .ok (.invokevirtual 101, 3) := by decide +kernel
theorem dX8_lay_65 : decode cX8_lay 65 = .ok (.ireturn, 1) := by decide +kernel
theorem dX8_cow_0 : decode cX8_cow 0 = .ok (.iload_n 1, 1) := by decide +kernel
theorem dX8_cow_1 : decode cX8_cow 1 = .ok (.invokestatic 109, 3) := by decide +kernel
theorem dX8_cow_4 : decode cX8_cow 4 = .ok (.ifCond .ne 10, 3) := by decide +kernel
theorem dX8_cow_7 : decode cX8_cow 7 = .ok (.aload_n 0, 1) := by decide +kernel
theorem dX8_cow_8 : decode cX8_cow 8 = .ok (.ldc 100, 2) := by decide +kernel
theorem dX8_cow_10 : decode cX8_cow 10 = .ok (.invokevirtual 101, 3) := by decide +kernel
theorem dX8_cow_13 : decode cX8_cow 13 = .ok (.ireturn, 1) := by decide +kernel
theorem dX8_cow_14 : decode cX8_cow 14 = .ok (.aload_n 0, 1) := by decide +kernel
theorem dX8_cow_15 : decode cX8_cow 15 = .ok (.getfield 9, 3) := by decide +kernel
theorem dX8_cow_18 : decode cX8_cow 18 = .ok (.iconst 3, 1) := by decide +kernel
theorem dX8_cow_19 : decode cX8_cow 19 = .ok (.iaload, 1) := by decide +kernel
theorem dX8_cow_20 : decode cX8_cow 20 = .ok (.istore_n 2, 1) := by decide +kernel
theorem dX8_cow_21 : decode cX8_cow 21 = .ok (.iload_n 2, 1) := by decide +kernel
theorem dX8_cow_22 : decode cX8_cow 22 = .ok (.bipush 6, 2) := by decide +kernel
theorem dX8_cow_24 : decode cX8_cow 24 = .ok (.if_icmp .ne 10, 3) := by decide +kernel
theorem dX8_cow_27 : decode cX8_cow 27 = .ok (.aload_n 0, 1) := by decide +kernel
theorem dX8_cow_28 : decode cX8_cow 28 = .ok (.ldc 105, 2) := by decide +kernel
theorem dX8_cow_30 : decode cX8_cow 30 = .ok (.invokevirtual 101, 3) := by decide +kernel
theorem dX8_cow_33 : decode cX8_cow 33 = .ok (.ireturn, 1) := by decide +kernel
theorem dX8_cow_34 : decode cX8_cow 34 = .ok (.aload_n 0, 1) := by decide +kernel
theorem dX8_cow_35 : decode cX8_cow 35 = .ok (.getfield 9, 3) := by decide +kernel
theorem dX8_cow_38 : decode cX8_cow 38 = .ok (.iconst 3, 1) := by decide +kernel
theorem dX8_cow_39 : decode cX8_cow 39 = .ok (.dup2, 1) := by decide +kernel
theorem dX8_cow_40 : decode cX8_cow 40 = .ok (.iaload, 1) := by decide +kernel
theorem dX8_cow_41 : decode cX8_cow 41 = .ok (.iconst 1, 1) := by decide +kernel
theorem dX8_cow_42 : decode cX8_cow 42 = .ok (.iadd, 1) := by decide +kernel
theorem dX8_cow_43 : decode cX8_cow 43 = .ok (.iastore, 1) := by decide +kernel
theorem dX8_cow_44 : decode cX8_cow 44 = .ok (.aload_n 0, 1) := by decide +kernel
theorem dX8_cow_45 : decode cX8_cow 45 = .ok (.getfield 9, 3) := by decide +kernel
theorem dX8_cow_48 : decode cX8_cow 48 = .ok (.bipush 58, 2) := by decide +kernel
theorem dX8_cow_50 : decode cX8_cow 50 = .ok (.iconst 2, 1) := by decide +kernel
theorem dX8_cow_51 : decode cX8_cow 51 = .ok (.iload_n 2, 1) := by decide +kernel
theorem dX8_cow_52 : decode cX8_cow 52 = .ok (.imul, 1) := by decide +kernel
theorem dX8_cow_53 : decode cX8_cow 53 = .ok (.iadd, 1) := by decide +kernel
theorem dX8_cow_54 : decode cX8_cow 54 = .ok (.iload_n 1, 1) := by decide +kernel
theorem dX8_cow_55 : decode cX8_cow 55 = .ok (.iastore, 1) := by decide +kernel
theorem dX8_cow_56 : decode cX8_cow 56 = .ok (.aload_n 0, 1) := by decide +kernel
theorem dX8_cow_57 : decode cX8_cow 57 = .ok (.getfield 9, 3) := by decide +kernel
theorem dX8_cow_60 : decode cX8_cow 60 = .ok (.bipush 58, 2) := by decide +kernel
theorem dX8_cow_62 : decode cX8_cow 62 = .ok (.iconst 2, 1) := by decide +kernel
theorem dX8_cow_63 : decode cX8_cow 63 = .ok (.iload_n 2, 1) := by decide +kernel
theorem dX8_cow_64 : decode cX8_cow 64 = .ok (.imul, 1) := by decide +kernel
theorem dX8_cow_65 : decode cX8_cow 65 = .ok (.iadd, 1) := by decide +kernel
theorem dX8_cow_66 : decode cX8_cow 66 = .ok (.iconst 1, 1) := by decide +kernel
theorem dX8_cow_67 : decode cX8_cow 67 = .ok (.iadd, 1) := by decide +kernel
theorem dX8_cow_68 : decode cX8_cow 68 = .ok (.iconst 0, 1) := by decide +kernel
theorem dX8_cow_69 : decode cX8_cow 69 = .ok (.iastore, 1) := by decide +kernel
theorem dX8_cow_70 : decode cX8_cow 70 = .ok (.iload_n 2, 1) := by decide +kernel
theorem dX8_cow_71 : decode cX8_cow 71 = .ok (.ireturn, 1) := by decide +kernel
theorem dX8_cowIs_0 : decode cX8_cowIs 0 = .ok (.aload_n 0, 1) := by decide +kernel
theorem dX8_cowIs_1 : decode cX8_cowIs 1 = .ok (.iload_n 1, 1) := by decide +kernel
theorem dX8_cowIs_2 : decode cX8_cowIs 2 = .ok (.invokevirtual 124, 3) := by decide +kernel
theorem dX8_cowIs_5 : decode cX8_cowIs 5 = .ok (.ifCond .eq 12, 3) := by decide +kernel
theorem dX8_cowIs_8 : decode cX8_cowIs 8 = .ok (.iload_n 2, 1) := by decide +kernel
theorem dX8_cowIs_9 : decode cX8_cowIs 9 = .ok (.iconst 0, 1) := by decide +kernel
theorem dX8_cowIs_10 : decode cX8_cowIs 10 = .ok (.iconst 2, 1) := by decide +kernel
theorem dX8_cowIs_11 : decode cX8_cowIs 11 = .ok (.invokestatic 51, 3) := by decide +kernel
theorem dX8_cowIs_14 : decode cX8_cowIs 14 = .ok (.ifCond .ne 10, 3) := by decide +kernel
theorem dX8_cowIs_17 : decode cX8_cowIs 17 = .ok (.aload_n 0, 1) := by decide +kernel
theorem dX8_cowIs_18 : decode cX8_cowIs 18 = .ok (.ldc 100, 2) := by decide +kernel
theorem dX8_cowIs_20 : decode cX8_cowIs 20 = .ok (.invokevirtual 101, 3) := by decide +kernel
theorem dX8_cowIs_23 : decode cX8_cowIs 23 = .ok (.ireturn, 1) := by decide +kernel
theorem dX8_cowIs_24 : decode cX8_cowIs 24 = .ok (.iload_n 2, 1) := by decide +kernel
theorem dX8_cowIs_25 : decode cX8_cowIs 25 = .ok (.iconst 2, 1) := by decide +kernel
theorem dX8_cowIs_26 : decode cX8_cowIs 26 = .ok (.if_icmp .ge 19, 3) := by decide +kernel
theorem dX8_cowIs_29 : decode cX8_cowIs 29 = .ok (.aload_n 0, 1) := by decide +kernel
theorem dX8_cowIs_30 : decode cX8_cowIs 30 = .ok (.getfield 9, 3) := by decide +kernel
theorem dX8_cowIs_33 : decode cX8_cowIs 33 = .ok (.bipush 58, 2) := by decide +kernel
theorem dX8_cowIs_35 : decode cX8_cowIs 35 = .ok (.iconst 2, 1) := by decide +kernel
theorem dX8_cowIs_36 : decode cX8_cowIs 36 = .ok (.iload_n 1, 1) := by decide +kernel
theorem dX8_cowIs_37 : decode cX8_cowIs 37 = .ok (.imul, 1) := by decide +kernel
theorem dX8_cowIs_38 : decode cX8_cowIs 38 = .ok (.iadd, 1) := by decide +kernel
theorem dX8_cowIs_39 : decode cX8_cowIs 39 = .ok (.iload_n 2, 1) := by decide +kernel
theorem dX8_cowIs_40 : decode cX8_cowIs 40 = .ok (.iadd, 1) := by decide +kernel
theorem dX8_cowIs_41 : decode cX8_cowIs 41 = .ok (.iaload, 1) := by decide +kernel
theorem dX8_cowIs_42 : decode cX8_cowIs 42 = .ok (.goto 18, 3) := by decide +kernel
theorem dX8_cowIs_45 : decode cX8_cowIs 45 = .ok (.aload_n 0, 1) := by decide +kernel
theorem dX8_cowIs_46 : decode cX8_cowIs 46 = .ok (.aload_n 0, 1) := by decide +kernel
theorem dX8_cowIs_47 : decode cX8_cowIs 47 = .ok (.getfield 9, 3) := by decide +kernel
theorem dX8_cowIs_50 : decode cX8_cowIs 50 = .ok (.bipush 58, 2) := by decide +kernel
theorem dX8_cowIs_52 : decode cX8_cowIs 52 = .ok (.iconst 2, 1) := by decide +kernel
theorem dX8_cowIs_53 : decode cX8_cowIs 53 = .ok (.iload_n 1, 1) := by decide +kernel
theorem dX8_cowIs_54 : decode cX8_cowIs 54 = .ok (.imul, 1) := by decide +kernel
theorem dX8_cowIs_55 : decode cX8_cowIs 55 = .ok (.iadd, 1) := by decide +kernel
theorem dX8_cowIs_56 : decode cX8_cowIs 56 = .ok (.iaload, 1) := by decide +kernel
theorem dX8_cowIs_57 : decode cX8_cowIs 57 = .ok (.invokevirtual 127, 3) := by decide +kernel
theorem dX8_cowIs_60 : decode cX8_cowIs 60 = .ok (.ireturn, 1) := by decide +kernel
theorem dX8_drive_0 : decode cX8_drive 0 = .ok (.aload_n 0, 1) := by decide +kernel
theorem dX8_drive_1 : decode cX8_drive 1 = .ok (.iload_n 1, 1) := by decide +kernel
theorem dX8_drive_2 : decode cX8_drive 2 = .ok (.invokevirtual 124, 3) := by decide +kernel
theorem dX8_drive_5 : decode cX8_drive 5 = .ok (.ifCond .eq 24, 3) := by decide +kernel
theorem dX8_drive_8 : decode cX8_drive 8 = .ok (.iload_n 2, 1) := by decide +kernel
theorem dX8_drive_9 : decode cX8_drive 9 = .ok (.invokestatic 109, 3) := by decide +kernel
theorem dX8_drive_12 : decode cX8_drive 12 = .ok (.ifCond .eq 17, 3) := by decide +kernel
theorem dX8_drive_15 : decode cX8_drive 15 = .ok (.aload_n 0, 1) := by decide +kernel
theorem dX8_drive_16 : decode cX8_drive 16 = .ok (.bipush 58, 2) := by decide +kernel
theorem dX8_drive_18 : decode cX8_drive 18 = .ok (.iconst 2, 1) := by decide +kernel
theorem dX8_drive_19 : decode cX8_drive 19 = .ok (.iload_n 1, 1) := by decide +kernel
theorem dX8_drive_20 : decode cX8_drive 20 = .ok (.imul, 1) := by decide +kernel
theorem dX8_drive_21 : decode cX8_drive 21 = .ok (.iadd, 1) := by decide +kernel
theorem dX8_drive_22 : decode cX8_drive 22 = .ok (.iload_n 2, 1) := by decide +kernel
theorem dX8_drive_23 : decode cX8_drive 23 = .ok (.invokevirtual 119, 3) := by decide +kernel
theorem dX8_drive_26 : decode cX8_drive 26 = .ok (.goto 9, 3) := by decide +kernel
theorem dX8_drive_29 : decode cX8_drive 29 = .ok (.aload_n 0, 1) := by decide +kernel
theorem dX8_drive_30 : decode cX8_drive 30 = .ok (.ldc 100, 2) := by decide +kernel
theorem dX8_drive_32 : decode cX8_drive 32 = .ok (.invokevirtual 101, 3) := by decide +kernel
theorem dX8_drive_35 : decode cX8_drive 35 = .ok (.ireturn, 1) := by decide +kernel
theorem dX8_feed_0 : decode cX8_feed 0 = .ok (.iload_n 3, 1) := by decide +kernel
theorem dX8_feed_1 : decode cX8_feed 1 = .ok (.iconst 1, 1) := by decide +kernel
theorem dX8_feed_2 : decode cX8_feed 2 = .ok (.bipush 8, 2) := by decide +kernel
theorem dX8_feed_4 : decode cX8_feed 4 = .ok (.invokestatic 51, 3) := by decide +kernel
theorem dX8_feed_7 : decode cX8_feed 7 = .ok (.ifCond .ne 10, 3) := by decide +kernel
theorem dX8_feed_10 : decode cX8_feed 10 = .ok (.aload_n 0, 1) := by decide +kernel
theorem dX8_feed_11 : decode cX8_feed 11 = .ok (.ldc 100, 2) := by decide +kernel
theorem dX8_feed_13 : decode cX8_feed 13 = .ok (.invokevirtual 101, 3) := by decide +kernel
theorem dX8_feed_16 : decode cX8_feed 16 = .ok (.ireturn, 1) := by decide +kernel
theorem dX8_feed_17 : decode cX8_feed 17 = .ok (.aload_n 0, 1) := by decide +kernel
theorem dX8_feed_18 : decode cX8_feed 18 = .ok (.getfield 9, 3) := by decide +kernel
theorem dX8_feed_21 : decode cX8_feed 21 = .ok (.iconst 4, 1) := by decide +kernel
theorem dX8_feed_22 : decode cX8_feed 22 = .ok (.iaload, 1) := by decide +kernel
theorem dX8_feed_23 : decode cX8_feed 23 = .ok (.iload_n 3, 1) := by decide +kernel
theorem dX8_feed_24 : decode cX8_feed 24 = .ok (.iadd, 1) := by decide +kernel
theorem dX8_feed_25 : decode cX8_feed 25 = .ok (.bipush 60, 2) := by decide +kernel
theorem dX8_feed_27 : decode cX8_feed 27 = .ok (.if_icmp .le 10, 3) := by decide +kernel
theorem dX8_feed_30 : decode cX8_feed 30 = .ok (.aload_n 0, 1) := by decide +kernel
theorem dX8_feed_31 : decode cX8_feed 31 = .ok (.ldc 105, 2) := by decide +kernel
theorem dX8_feed_33 : decode cX8_feed 33 = .ok (.invokevirtual 101, 3) := by decide +kernel
theorem dX8_feed_36 : decode cX8_feed 36 = .ok (.ireturn, 1) := by decide +kernel
theorem dX8_feed_37 : decode cX8_feed 37 = .ok (.iconst 0, 1) := by decide +kernel
theorem dX8_feed_38 : decode cX8_feed 38 = .ok (.istore 4, 2) := by decide +kernel
theorem dX8_feed_40 : decode cX8_feed 40 = .ok (.iload 4, 2) := by decide +kernel
theorem dX8_feed_42 : decode cX8_feed 42 = .ok (.iload_n 3, 1) := by decide +kernel
theorem dX8_feed_43 : decode cX8_feed 43 = .ok (.if_icmp .ge 46, 3) := by decide +kernel
theorem dX8_feed_46 : decode cX8_feed 46 = .ok (.aload_n 0, 1) := by decide +kernel
theorem dX8_feed_47 : decode cX8_feed 47 = .ok (.getfield 9, 3) := by decide +kernel
theorem dX8_feed_50 : decode cX8_feed 50 = .ok (.sipush 198, 3) := by decide +kernel
theorem dX8_feed_53 : decode cX8_feed 53 = .ok (.aload_n 0, 1) := by decide +kernel
theorem dX8_feed_54 : decode cX8_feed 54 = .ok (.getfield 9, 3) := by decide +kernel
theorem dX8_feed_57 : decode cX8_feed 57 = .ok (.iconst 4, 1) := by decide +kernel
theorem dX8_feed_58 : decode cX8_feed 58 = .ok (.iaload, 1) := by decide +kernel
theorem dX8_feed_59 : decode cX8_feed 59 = .ok (.iadd, 1) := by decide +kernel
theorem dX8_feed_60 : decode cX8_feed 60 = .ok (.lload_n 1, 1) := by decide +kernel
theorem dX8_feed_61 : decode cX8_feed 61 = .ok (.bipush 8, 2) := by decide +kernel
theorem dX8_feed_63 : decode cX8_feed 63 = .ok (.iload 4, 2) := by decide +kernel
theorem dX8_feed_65 : decode cX8_feed 65 = .ok (.imul, 1) := by decide +kernel
theorem dX8_feed_66 : decode cX8_feed 66 = .ok (.lshr, 1) := by decide +kernel
theorem dX8_feed_67 : decode cX8_feed 67 = .ok (.ldc2_w 130, 3) := by decide +kernel
theorem dX8_feed_70 : decode cX8_feed 70 = .ok (.land, 1) := by decide +kernel
theorem dX8_feed_71 : decode cX8_feed 71 = .ok (.l2i, 1) := by decide +kernel
theorem dX8_feed_72 : decode cX8_feed 72 = .ok (.iastore, 1) := by decide +kernel
theorem dX8_feed_73 : decode cX8_feed 73 = .ok (.aload_n 0, 1) := by decide +kernel
theorem dX8_feed_74 : decode cX8_feed 74 = .ok (.getfield 9, 3) := by decide +kernel
theorem dX8_feed_77 : decode cX8_feed 77 = .ok (.iconst 4, 1) := by decide +kernel
theorem dX8_feed_78 : decode cX8_feed 78 = .ok (.dup2, 1) := by decide +kernel
theorem dX8_feed_79 : decode cX8_feed 79 = .ok (.iaload, 1) := by decide +kernel
theorem dX8_feed_80 : decode cX8_feed 80 = .ok (.iconst 1, 1) := by decide +kernel
theorem dX8_feed_81 : decode cX8_feed 81 = .ok (.iadd, 1) := by decide +kernel
theorem dX8_feed_82 : decode cX8_feed 82 = .ok (.iastore, 1) := by decide +kernel
theorem dX8_feed_83 : decode cX8_feed 83 = .ok (.iinc 4 1, 3) := by decide +kernel
theorem dX8_feed_86 : decode cX8_feed 86 = .ok (.goto (-46), 3) := by decide +kernel
theorem dX8_feed_89 : decode cX8_feed 89 = .ok (.aload_n 0, 1) := by decide +kernel
theorem dX8_feed_90 : decode cX8_feed 90 = .ok (.getfield 9, 3) := by decide +kernel
theorem dX8_feed_93 : decode cX8_feed 93 = .ok (.iconst 4, 1) := by decide +kernel
theorem dX8_feed_94 : decode cX8_feed 94 = .ok (.iaload, 1) := by decide +kernel
theorem dX8_feed_95 : decode cX8_feed 95 = .ok (.ireturn, 1) := by decide +kernel
theorem dX8_look_0 : decode cX8_look 0 = .ok (.aload_n 0, 1) := by decide +kernel
theorem dX8_look_1 : decode cX8_look 1 = .ok (.getfield 132, 3) := by decide +kernel
theorem dX8_look_4 : decode cX8_look 4 = .ok (.aload_n 0, 1) := by decide +kernel
theorem dX8_look_5 : decode cX8_look 5 = .ok (.getfield 9, 3) := by decide +kernel
theorem dX8_look_8 : decode cX8_look 8 = .ok (.iconst 4, 1) := by decide +kernel
theorem dX8_look_9 : decode cX8_look 9 = .ok (.iaload, 1) := by decide +kernel
theorem dX8_look_10 : decode cX8_look 10 = .ok (.if_icmp .ge 19, 3) := by decide +kernel
theorem dX8_look_13 : decode cX8_look 13 = .ok (.aload_n 0, 1) := by decide +kernel
theorem dX8_look_14 : decode cX8_look 14 = .ok (.getfield 9, 3) := by decide +kernel
theorem dX8_look_17 : decode cX8_look 17 = .ok (.sipush 198, 3) := by decide +kernel
theorem dX8_look_20 : decode cX8_look 20 = .ok (.aload_n 0, 1) := by decide +kernel
theorem dX8_look_21 : decode cX8_look 21 = .ok (.getfield 132, 3) := by decide +kernel
theorem dX8_look_24 : decode cX8_look 24 = .ok (.iadd, 1) := by decide +kernel
theorem dX8_look_25 : decode cX8_look 25 = .ok (.iaload, 1) := by decide +kernel
theorem dX8_look_26 : decode cX8_look 26 = .ok (.goto 4, 3) := by decide +kernel
theorem dX8_look_29 : decode cX8_look 29 = .ok (.iconst (-1), 1) := by decide +kernel
theorem dX8_look_30 : decode cX8_look 30 = .ok (.ireturn, 1) := by decide +kernel
theorem dX8_step_0 : decode cX8_step 0 = .ok (.aload_n 0, 1) := by decide +kernel
theorem dX8_step_1 : decode cX8_step 1 = .ok (.getfield 136, 3) := by decide +kernel
theorem dX8_step_4 : decode cX8_step 4 = .ok (.aload_n 0, 1) := by decide +kernel
theorem dX8_step_5 : decode cX8_step 5 = .ok (.getfield 31, 3) := by decide +kernel
theorem dX8_step_8 : decode cX8_step 8 = .ok (.arraylength, 1) := by decide +kernel
theorem dX8_step_9 : decode cX8_step 9 = .ok (.if_icmp .ge 33, 3) := by decide +kernel
theorem dX8_step_12 : decode cX8_step 12 = .ok (.aload_n 0, 1) := by decide +kernel
theorem dX8_step_13 : decode cX8_step 13 = .ok (.getfield 31, 3) := by decide +kernel
theorem dX8_step_16 : decode cX8_step 16 = .ok (.aload_n 0, 1) := by decide +kernel
theorem dX8_step_17 : decode cX8_step 17 = .ok (.getfield 136, 3) := by decide +kernel
theorem dX8_step_20 : decode cX8_step 20 = .ok (.iload_n 1, 1) := by decide +kernel
theorem dX8_step_21 : decode cX8_step 21 = .ok (.iastore, 1) := by decide +kernel
theorem dX8_step_22 : decode cX8_step 22 = .ok (.aload_n 0, 1) := by decide +kernel
theorem dX8_step_23 : decode cX8_step 23 = .ok (.getfield 34, 3) := by decide +kernel
theorem dX8_step_26 : decode cX8_step 26 = .ok (.aload_n 0, 1) := by decide +kernel
theorem dX8_step_27 : decode cX8_step 27 = .ok (.getfield 136, 3) := by decide +kernel
theorem dX8_step_30 : decode cX8_step 30 = .ok (.iload_n 2, 1) := by decide +kernel
theorem dX8_step_31 : decode cX8_step 31 = .ok (.iastore, 1) := by decide +kernel
theorem dX8_step_32 : decode cX8_step 32 = .ok (.aload_n 0, 1) := by decide +kernel
theorem dX8_step_33 : decode cX8_step 33 = .ok (.dup, 1) := by decide +kernel
theorem dX8_step_34 : decode cX8_step 34 = .ok (.getfield 136, 3) := by decide +kernel
theorem dX8_step_37 : decode cX8_step 37 = .ok (.iconst 1, 1) := by decide +kernel
theorem dX8_step_38 : decode cX8_step 38 = .ok (.iadd, 1) := by decide +kernel
theorem dX8_step_39 : decode cX8_step 39 = .ok (.putfield 136, 3) := by decide +kernel
theorem dX8_step_42 : decode cX8_step 42 = .ok (.return_, 1) := by decide +kernel
theorem dX8_nameOf_0 : decode cX8_nameOf 0 = .ok (.iload_n 1, 1) := by decide +kernel
theorem dX8_nameOf_1 : decode cX8_nameOf 1 = .ok (.tableswitch 146 97 112 #[79, 112, 112, 112, 146, 146, 146, 146, 146, 146, 79, 146, 146, 146, 146, 79], 79) := by decide +kernel
theorem dX8_nameOf_80 : decode cX8_nameOf 80 = .ok (.aload_n 0, 1) := by decide +kernel
theorem dX8_nameOf_81 : decode cX8_nameOf 81 = .ok (.getfield 139, 3) := by decide +kernel
theorem dX8_nameOf_84 : decode cX8_nameOf 84 = .ok (.ifCond .eq 7, 3) := by decide +kernel
theorem dX8_nameOf_87 : decode cX8_nameOf 87 = .ok (.iconst (-1), 1) := by decide +kernel
theorem dX8_nameOf_88 : decode cX8_nameOf 88 = .ok (.goto 24, 3) := by decide +kernel
theorem dX8_nameOf_91 : decode cX8_nameOf 91 = .ok (.iload_n 1, 1) := by decide +kernel
theorem dX8_nameOf_92 : decode cX8_nameOf 92 = .ok (.bipush 97, 2) := by decide +kernel
theorem dX8_nameOf_94 : decode cX8_nameOf 94 = .ok (.if_icmp .ne 7, 3) := by decide +kernel
theorem dX8_nameOf_97 : decode cX8_nameOf 97 = .ok (.iconst 0, 1) := by decide +kernel
theorem dX8_nameOf_98 : decode cX8_nameOf 98 = .ok (.goto 14, 3) := by decide +kernel
theorem dX8_nameOf_101 : decode cX8_nameOf 101 = .ok (.iload_n 1, 1) := by decide +kernel
theorem dX8_nameOf_102 : decode cX8_nameOf 102 = .ok (.bipush 112, 2) := by decide +kernel
theorem dX8_nameOf_104 : decode cX8_nameOf 104 = .ok (.if_icmp .ne 7, 3) := by decide +kernel
theorem dX8_nameOf_107 : decode cX8_nameOf 107 = .ok (.iconst 1, 1) := by decide +kernel
theorem dX8_nameOf_108 : decode cX8_nameOf 108 = .ok (.goto 4, 3) := by decide +kernel
theorem dX8_nameOf_111 : decode cX8_nameOf 111 = .ok (.iconst 2, 1) := by decide +kernel
theorem dX8_nameOf_112 : decode cX8_nameOf 112 = .ok (.ireturn, 1) := by decide +kernel
theorem dX8_nameOf_113 : decode cX8_nameOf 113 = .ok (.aload_n 0, 1) := by decide +kernel
theorem dX8_nameOf_114 : decode cX8_nameOf 114 = .ok (.getfield 139, 3) := by decide +kernel
theorem dX8_nameOf_117 : decode cX8_nameOf 117 = .ok (.iconst 1, 1) := by decide +kernel
theorem dX8_nameOf_118 : decode cX8_nameOf 118 = .ok (.if_icmp .eq 7, 3) := by decide +kernel
theorem dX8_nameOf_121 : decode cX8_nameOf 121 = .ok (.iconst (-1), 1) := by decide +kernel
theorem dX8_nameOf_122 : decode cX8_nameOf 122 = .ok (.goto 24, 3) := by decide +kernel
theorem dX8_nameOf_125 : decode cX8_nameOf 125 = .ok (.iload_n 1, 1) := by decide +kernel
theorem dX8_nameOf_126 : decode cX8_nameOf 126 = .ok (.bipush 99, 2) := by decide +kernel
theorem dX8_nameOf_128 : decode cX8_nameOf 128 = .ok (.if_icmp .ne 7, 3) := by decide +kernel
theorem dX8_nameOf_131 : decode cX8_nameOf 131 = .ok (.iconst 0, 1) := by decide +kernel
theorem dX8_nameOf_132 : decode cX8_nameOf 132 = .ok (.goto 14, 3) := by decide +kernel
theorem dX8_nameOf_135 : decode cX8_nameOf 135 = .ok (.iload_n 1, 1) := by decide +kernel
theorem dX8_nameOf_136 : decode cX8_nameOf 136 = .ok (.bipush 98, 2) := by decide +kernel
theorem dX8_nameOf_138 : decode cX8_nameOf 138 = .ok (.if_icmp .ne 7, 3) := by decide +kernel
theorem dX8_nameOf_141 : decode cX8_nameOf 141 = .ok (.iconst 1, 1) := by decide +kernel
theorem dX8_nameOf_142 : decode cX8_nameOf 142 = .ok (.goto 4, 3) := by decide +kernel
theorem dX8_nameOf_145 : decode cX8_nameOf 145 = .ok (.iconst 2, 1) := by decide +kernel
theorem dX8_nameOf_146 : decode cX8_nameOf 146 = .ok (.ireturn, 1) := by decide +kernel
theorem dX8_nameOf_147 : decode cX8_nameOf 147 = .ok (.iconst (-1), 1) := by decide +kernel
theorem dX8_nameOf_148 : decode cX8_nameOf 148 = .ok (.ireturn, 1) := by decide +kernel
theorem dX8_number_0 : decode cX8_number 0 = .ok (.iconst 0, 1) := by decide +kernel
theorem dX8_number_1 : decode cX8_number 1 = .ok (.istore_n 1, 1) := by decide +kernel
theorem dX8_number_2 : decode cX8_number 2 = .ok (.iconst 0, 1) := by decide +kernel
theorem dX8_number_3 : decode cX8_number 3 = .ok (.istore_n 2, 1) := by decide +kernel
theorem dX8_number_4 : decode cX8_number 4 = .ok (.iload_n 2, 1) := by decide +kernel
theorem dX8_number_5 : decode cX8_number 5 = .ok (.iconst 4, 1) := by decide +kernel
theorem dX8_number_6 : decode cX8_number 6 = .ok (.if_icmp .ge 46, 3) := by decide +kernel
theorem dX8_number_9 : decode cX8_number 9 = .ok (.aload_n 0, 1) := by decide +kernel
theorem dX8_number_10 : decode cX8_number 10 = .ok (.invokevirtual 142, 3) := by decide +kernel
theorem dX8_number_13 : decode cX8_number 13 = .ok (.bipush 48, 2) := by decide +kernel
theorem dX8_number_15 : decode cX8_number 15 = .ok (.bipush 57, 2) := by decide +kernel
theorem dX8_number_17 : decode cX8_number 17 = .ok (.invokestatic 51, 3) := by decide +kernel
theorem dX8_number_20 : decode cX8_number 20 = .ok (.ifCond .eq 32, 3) := by decide +kernel
theorem dX8_number_23 : decode cX8_number 23 = .ok (.bipush 10, 2) := by decide +kernel
theorem dX8_number_25 : decode cX8_number 25 = .ok (.iload_n 1, 1) := by decide +kernel
theorem dX8_number_26 : decode cX8_number 26 = .ok (.imul, 1) := by decide +kernel
theorem dX8_number_27 : decode cX8_number 27 = .ok (.aload_n 0, 1) := by decide +kernel
theorem dX8_number_28 : decode cX8_number 28 = .ok (.invokevirtual 142, 3) := by decide +kernel
theorem dX8_number_31 : decode cX8_number 31 = .ok (.iadd, 1) := by decide +kernel
theorem dX8_number_32 : decode cX8_number 32 = .ok (.bipush 48, 2) := by decide +kernel
theorem dX8_number_34 : decode cX8_number 34 = .ok (.isub, 1) := by decide +kernel
theorem dX8_number_35 : decode cX8_number 35 = .ok (.istore_n 1, 1) := by decide +kernel
theorem dX8_number_36 : decode cX8_number 36 = .ok (.aload_n 0, 1) := by decide +kernel
theorem dX8_number_37 : decode cX8_number 37 = .ok (.dup, 1) := by decide +kernel
theorem dX8_number_38 : decode cX8_number 38 = .ok (.getfield 132, 3) := by decide +kernel
theorem dX8_number_41 : decode cX8_number 41 = .ok (.iconst 1, 1) := by decide +kernel
theorem dX8_number_42 : decode cX8_number 42 = .ok (.iadd, 1) := by decide +kernel
theorem dX8_number_43 : decode cX8_number 43 = .ok (.putfield 132, 3) := by decide +kernel
theorem dX8_number_46 : decode cX8_number 46 = .ok (.iinc 2 1, 3) := by decide +kernel
theorem dX8_number_49 : decode cX8_number 49 = .ok (.goto (-45), 3) := by decide +kernel
theorem dX8_number_52 : decode cX8_number 52 = .ok (.aload_n 0, 1) := by decide +kernel
theorem dX8_number_53 : decode cX8_number 53 = .ok (.iload_n 2, 1) := by decide +kernel
theorem dX8_number_54 : decode cX8_number 54 = .ok (.ifCond .ne 7, 3) := by decide +kernel
theorem dX8_number_57 : decode cX8_number 57 = .ok (.iconst 1, 1) := by decide +kernel
theorem dX8_number_58 : decode cX8_number 58 = .ok (.goto 4, 3) := by decide +kernel
theorem dX8_number_61 : decode cX8_number 61 = .ok (.iconst 0, 1) := by decide +kernel
theorem dX8_number_62 : decode cX8_number 62 = .ok (.putfield 146, 3) := by decide +kernel
theorem dX8_number_65 : decode cX8_number 65 = .ok (.aload_n 0, 1) := by decide +kernel
theorem dX8_number_66 : decode cX8_number 66 = .ok (.iconst 1, 1) := by decide +kernel
theorem dX8_number_67 : decode cX8_number 67 = .ok (.iload_n 1, 1) := by decide +kernel
theorem dX8_number_68 : decode cX8_number 68 = .ok (.invokevirtual 150, 3) := by decide +kernel
theorem dX8_number_71 : decode cX8_number 71 = .ok (.return_, 1) := by decide +kernel
theorem dX8_opens_0 : decode cX8_opens 0 = .ok (.aload_n 0, 1) := by decide +kernel
theorem dX8_opens_1 : decode cX8_opens 1 = .ok (.getfield 154, 3) := by decide +kernel
theorem dX8_opens_4 : decode cX8_opens 4 = .ok (.iconst 5, 1) := by decide +kernel
theorem dX8_opens_5 : decode cX8_opens 5 = .ok (.if_icmp .ne 9, 3) := by decide +kernel
theorem dX8_opens_8 : decode cX8_opens 8 = .ok (.aload_n 0, 1) := by decide +kernel
theorem dX8_opens_9 : decode cX8_opens 9 = .ok (.iconst 1, 1) := by decide +kernel
theorem dX8_opens_10 : decode cX8_opens 10 = .ok (.putfield 146, 3) := by decide +kernel
theorem dX8_opens_13 : decode cX8_opens 13 = .ok (.return_, 1) := by decide +kernel
theorem dX8_opens_14 : decode cX8_opens 14 = .ok (.aload_n 0, 1) := by decide +kernel
theorem dX8_opens_15 : decode cX8_opens 15 = .ok (.dup, 1) := by decide +kernel
theorem dX8_opens_16 : decode cX8_opens 16 = .ok (.getfield 154, 3) := by decide +kernel
theorem dX8_opens_19 : decode cX8_opens 19 = .ok (.iconst 1, 1) := by decide +kernel
theorem dX8_opens_20 : decode cX8_opens 20 = .ok (.iadd, 1) := by decide +kernel
theorem dX8_opens_21 : decode cX8_opens 21 = .ok (.putfield 154, 3) := by decide +kernel
theorem dX8_opens_24 : decode cX8_opens 24 = .ok (.aload_n 0, 1) := by decide +kernel
theorem dX8_opens_25 : decode cX8_opens 25 = .ok (.dup, 1) := by decide +kernel
theorem dX8_opens_26 : decode cX8_opens 26 = .ok (.getfield 132, 3) := by decide +kernel
theorem dX8_opens_29 : decode cX8_opens 29 = .ok (.iconst 1, 1) := by decide +kernel
theorem dX8_opens_30 : decode cX8_opens 30 = .ok (.iadd, 1) := by decide +kernel
theorem dX8_opens_31 : decode cX8_opens 31 = .ok (.putfield 132, 3) := by decide +kernel
theorem dX8_opens_34 : decode cX8_opens 34 = .ok (.iload_n 1, 1) := by decide +kernel
theorem dX8_opens_35 : decode cX8_opens 35 = .ok (.bipush 33, 2) := by decide +kernel
theorem dX8_opens_37 : decode cX8_opens 37 = .ok (.if_icmp .ne 16, 3) := by decide +kernel
theorem dX8_opens_40 : decode cX8_opens 40 = .ok (.aload_n 0, 1) := by decide +kernel
theorem dX8_opens_41 : decode cX8_opens 41 = .ok (.invokevirtual 157, 3) := by decide +kernel
theorem dX8_opens_44 : decode cX8_opens 44 = .ok (.aload_n 0, 1) := by decide +kernel
theorem dX8_opens_45 : decode cX8_opens 45 = .ok (.iconst 3, 1) := by decide +kernel
theorem dX8_opens_46 : decode cX8_opens 46 = .ok (.iconst 0, 1) := by decide +kernel
theorem dX8_opens_47 : decode cX8_opens 47 = .ok (.invokevirtual 150, 3) := by decide +kernel
theorem dX8_opens_50 : decode cX8_opens 50 = .ok (.goto 53, 3) := by decide +kernel
theorem dX8_opens_53 : decode cX8_opens 53 = .ok (.aload_n 0, 1) := by decide +kernel
theorem dX8_opens_54 : decode cX8_opens 54 = .ok (.invokevirtual 160, 3) := by decide +kernel
theorem dX8_opens_57 : decode cX8_opens 57 = .ok (.aload_n 0, 1) := by decide +kernel
theorem dX8_opens_58 : decode cX8_opens 58 = .ok (.aload_n 0, 1) := by decide +kernel
theorem dX8_opens_59 : decode cX8_opens 59 = .ok (.getfield 146, 3) := by decide +kernel
theorem dX8_opens_62 : decode cX8_opens 62 = .ok (.ifCond .ne 12, 3) := by decide +kernel
theorem dX8_opens_65 : decode cX8_opens 65 = .ok (.aload_n 0, 1) := by decide +kernel
theorem dX8_opens_66 : decode cX8_opens 66 = .ok (.invokevirtual 142, 3) := by decide +kernel
theorem dX8_opens_69 : decode cX8_opens 69 = .ok (.bipush 41, 2) := by decide +kernel
theorem dX8_opens_71 : decode cX8_opens 71 = .ok (.if_icmp .eq 7, 3) := by decide +kernel
theorem dX8_opens_74 : decode cX8_opens 74 = .ok (.iconst 1, 1) := by decide +kernel
theorem dX8_opens_75 : decode cX8_opens 75 = .ok (.goto 4, 3) := by decide +kernel
theorem dX8_opens_78 : decode cX8_opens 78 = .ok (.iconst 0, 1) := by decide +kernel
theorem dX8_opens_79 : decode cX8_opens 79 = .ok (.putfield 146, 3) := by decide +kernel
theorem dX8_opens_82 : decode cX8_opens 82 = .ok (.aload_n 0, 1) := by decide +kernel
theorem dX8_opens_83 : decode cX8_opens 83 = .ok (.dup, 1) := by decide +kernel
theorem dX8_opens_84 : decode cX8_opens 84 = .ok (.getfield 132, 3) := by decide +kernel
theorem dX8_opens_87 : decode cX8_opens 87 = .ok (.aload_n 0, 1) := by decide +kernel
theorem dX8_opens_88 : decode cX8_opens 88 = .ok (.getfield 146, 3) := by decide +kernel
theorem dX8_opens_91 : decode cX8_opens 91 = .ok (.ifCond .eq 7, 3) := by decide +kernel
theorem dX8_opens_94 : decode cX8_opens 94 = .ok (.iconst 0, 1) := by decide +kernel
theorem dX8_opens_95 : decode cX8_opens 95 = .ok (.goto 4, 3) := by decide +kernel
theorem dX8_opens_98 : decode cX8_opens 98 = .ok (.iconst 1, 1) := by decide +kernel
theorem dX8_opens_99 : decode cX8_opens 99 = .ok (.iadd, 1) := by decide +kernel
theorem dX8_opens_100 : decode cX8_opens 100 = .ok (.putfield 132, 3) := by decide +kernel
theorem dX8_opens_103 : decode cX8_opens 103 = .ok (.aload_n 0, 1) := by decide +kernel
theorem dX8_opens_104 : decode cX8_opens 104 = .ok (.dup, 1) := by decide +kernel
theorem dX8_opens_105 : decode cX8_opens 105 = .ok (.getfield 154, 3) := by decide +kernel
theorem dX8_opens_108 : decode cX8_opens 108 = .ok (.iconst 1, 1) := by decide +kernel
theorem dX8_opens_109 : decode cX8_opens 109 = .ok (.isub, 1) := by decide +kernel
theorem dX8_opens_110 : decode cX8_opens 110 = .ok (.putfield 154, 3) := by decide +kernel
theorem dX8_opens_113 : decode cX8_opens 113 = .ok (.return_, 1) := by decide +kernel
theorem dX8_one_0 : decode cX8_one 0 = .ok (.aload_n 0, 1) := by decide +kernel
theorem dX8_one_1 : decode cX8_one 1 = .ok (.invokevirtual 142, 3) := by decide +kernel
theorem dX8_one_4 : decode cX8_one 4 = .ok (.istore_n 1, 1) := by decide +kernel
theorem dX8_one_5 : decode cX8_one 5 = .ok (.aload_n 0, 1) := by decide +kernel
theorem dX8_one_6 : decode cX8_one 6 = .ok (.iload_n 1, 1) := by decide +kernel
theorem dX8_one_7 : decode cX8_one 7 = .ok (.invokevirtual 163, 3) := by decide +kernel
theorem dX8_one_10 : decode cX8_one 10 = .ok (.istore_n 2, 1) := by decide +kernel
theorem dX8_one_11 : decode cX8_one 11 = .ok (.iload_n 2, 1) := by decide +kernel
theorem dX8_one_12 : decode cX8_one 12 = .ok (.ifCond .lt 22, 3) := by decide +kernel
theorem dX8_one_15 : decode cX8_one 15 = .ok (.aload_n 0, 1) := by decide +kernel
theorem dX8_one_16 : decode cX8_one 16 = .ok (.dup, 1) := by decide +kernel
theorem dX8_one_17 : decode cX8_one 17 = .ok (.getfield 132, 3) := by decide +kernel
theorem dX8_one_20 : decode cX8_one 20 = .ok (.iconst 1, 1) := by decide +kernel
theorem dX8_one_21 : decode cX8_one 21 = .ok (.iadd, 1) := by decide +kernel
theorem dX8_one_22 : decode cX8_one 22 = .ok (.putfield 132, 3) := by decide +kernel
theorem dX8_one_25 : decode cX8_one 25 = .ok (.aload_n 0, 1) := by decide +kernel
theorem dX8_one_26 : decode cX8_one 26 = .ok (.iconst 2, 1) := by decide +kernel
theorem dX8_one_27 : decode cX8_one 27 = .ok (.iload_n 2, 1) := by decide +kernel
theorem dX8_one_28 : decode cX8_one 28 = .ok (.invokevirtual 150, 3) := by decide +kernel
theorem dX8_one_31 : decode cX8_one 31 = .ok (.goto 27, 3) := by decide +kernel
theorem dX8_one_34 : decode cX8_one 34 = .ok (.iload_n 1, 1) := by decide +kernel
theorem dX8_one_35 : decode cX8_one 35 = .ok (.bipush 33, 2) := by decide +kernel
theorem dX8_one_37 : decode cX8_one 37 = .ok (.if_icmp .eq 9, 3) := by decide +kernel
theorem dX8_one_40 : decode cX8_one 40 = .ok (.iload_n 1, 1) := by decide +kernel
theorem dX8_one_41 : decode cX8_one 41 = .ok (.bipush 40, 2) := by decide +kernel
theorem dX8_one_43 : decode cX8_one 43 = .ok (.if_icmp .ne 11, 3) := by decide +kernel
theorem dX8_one_46 : decode cX8_one 46 = .ok (.aload_n 0, 1) := by decide +kernel
theorem dX8_one_47 : decode cX8_one 47 = .ok (.iload_n 1, 1) := by decide +kernel
theorem dX8_one_48 : decode cX8_one 48 = .ok (.invokevirtual 166, 3) := by decide +kernel
theorem dX8_one_51 : decode cX8_one 51 = .ok (.goto 7, 3) := by decide +kernel
theorem dX8_one_54 : decode cX8_one 54 = .ok (.aload_n 0, 1) := by decide +kernel
theorem dX8_one_55 : decode cX8_one 55 = .ok (.invokevirtual 170, 3) := by decide +kernel
theorem dX8_one_58 : decode cX8_one 58 = .ok (.return_, 1) := by decide +kernel
theorem dX8_times_0 : decode cX8_times 0 = .ok (.aload_n 0, 1) := by decide +kernel
theorem dX8_times_1 : decode cX8_times 1 = .ok (.invokevirtual 157, 3) := by decide +kernel
theorem dX8_times_4 : decode cX8_times 4 = .ok (.aload_n 0, 1) := by decide +kernel
theorem dX8_times_5 : decode cX8_times 5 = .ok (.getfield 146, 3) := by decide +kernel
theorem dX8_times_8 : decode cX8_times 8 = .ok (.ifCond .ne 58, 3) := by decide +kernel
theorem dX8_times_11 : decode cX8_times 11 = .ok (.aload_n 0, 1) := by decide +kernel
theorem dX8_times_12 : decode cX8_times 12 = .ok (.invokevirtual 142, 3) := by decide +kernel
theorem dX8_times_15 : decode cX8_times 15 = .ok (.bipush 42, 2) := by decide +kernel
theorem dX8_times_17 : decode cX8_times 17 = .ok (.if_icmp .eq 21, 3) := by decide +kernel
theorem dX8_times_20 : decode cX8_times 20 = .ok (.aload_n 0, 1) := by decide +kernel
theorem dX8_times_21 : decode cX8_times 21 = .ok (.invokevirtual 142, 3) := by decide +kernel
theorem dX8_times_24 : decode cX8_times 24 = .ok (.bipush 47, 2) := by decide +kernel
theorem dX8_times_26 : decode cX8_times 26 = .ok (.if_icmp .eq 12, 3) := by decide +kernel
theorem dX8_times_29 : decode cX8_times 29 = .ok (.aload_n 0, 1) := by decide +kernel
theorem dX8_times_30 : decode cX8_times 30 = .ok (.invokevirtual 142, 3) := by decide +kernel
theorem dX8_times_33 : decode cX8_times 33 = .ok (.bipush 37, 2) := by decide +kernel
theorem dX8_times_35 : decode cX8_times 35 = .ok (.if_icmp .ne 31, 3) := by decide +kernel
theorem dX8_times_38 : decode cX8_times 38 = .ok (.aload_n 0, 1) := by decide +kernel
theorem dX8_times_39 : decode cX8_times 39 = .ok (.invokevirtual 142, 3) := by decide +kernel
theorem dX8_times_42 : decode cX8_times 42 = .ok (.istore_n 1, 1) := by decide +kernel
theorem dX8_times_43 : decode cX8_times 43 = .ok (.aload_n 0, 1) := by decide +kernel
theorem dX8_times_44 : decode cX8_times 44 = .ok (.dup, 1) := by decide +kernel
theorem dX8_times_45 : decode cX8_times 45 = .ok (.getfield 132, 3) := by decide +kernel
theorem dX8_times_48 : decode cX8_times 48 = .ok (.iconst 1, 1) := by decide +kernel
theorem dX8_times_49 : decode cX8_times 49 = .ok (.iadd, 1) := by decide +kernel
theorem dX8_times_50 : decode cX8_times 50 = .ok (.putfield 132, 3) := by decide +kernel
theorem dX8_times_53 : decode cX8_times 53 = .ok (.aload_n 0, 1) := by decide +kernel
theorem dX8_times_54 : decode cX8_times 54 = .ok (.invokevirtual 157, 3) := by decide +kernel
theorem dX8_times_57 : decode cX8_times 57 = .ok (.aload_n 0, 1) := by decide +kernel
theorem dX8_times_58 : decode cX8_times 58 = .ok (.iload_n 1, 1) := by decide +kernel
theorem dX8_times_59 : decode cX8_times 59 = .ok (.iconst 0, 1) := by decide +kernel
theorem dX8_times_60 : decode cX8_times 60 = .ok (.invokevirtual 150, 3) := by decide +kernel
theorem dX8_times_63 : decode cX8_times 63 = .ok (.goto (-59), 3) := by decide +kernel
theorem dX8_times_66 : decode cX8_times 66 = .ok (.return_, 1) := by decide +kernel
theorem dX8_sum_0 : decode cX8_sum 0 = .ok (.aload_n 0, 1) := by decide +kernel
theorem dX8_sum_1 : decode cX8_sum 1 = .ok (.invokevirtual 173, 3) := by decide +kernel
theorem dX8_sum_4 : decode cX8_sum 4 = .ok (.aload_n 0, 1) := by decide +kernel
theorem dX8_sum_5 : decode cX8_sum 5 = .ok (.getfield 146, 3) := by decide +kernel
theorem dX8_sum_8 : decode cX8_sum 8 = .ok (.ifCond .ne 49, 3) := by decide +kernel
theorem dX8_sum_11 : decode cX8_sum 11 = .ok (.aload_n 0, 1) := by decide +kernel
theorem dX8_sum_12 : decode cX8_sum 12 = .ok (.invokevirtual 142, 3) := by decide +kernel
theorem dX8_sum_15 : decode cX8_sum 15 = .ok (.bipush 43, 2) := by decide +kernel
theorem dX8_sum_17 : decode cX8_sum 17 = .ok (.if_icmp .eq 12, 3) := by decide +kernel
theorem dX8_sum_20 : decode cX8_sum 20 = .ok (.aload_n 0, 1) := by decide +kernel
theorem dX8_sum_21 : decode cX8_sum 21 = .ok (.invokevirtual 142, 3) := by decide +kernel
theorem dX8_sum_24 : decode cX8_sum 24 = .ok (.bipush 45, 2) := by decide +kernel
theorem dX8_sum_26 : decode cX8_sum 26 = .ok (.if_icmp .ne 31, 3) := by decide +kernel
theorem dX8_sum_29 : decode cX8_sum 29 = .ok (.aload_n 0, 1) := by decide +kernel
theorem dX8_sum_30 : decode cX8_sum 30 = .ok (.invokevirtual 142, 3) := by decide +kernel
theorem dX8_sum_33 : decode cX8_sum 33 = .ok (.istore_n 1, 1) := by decide +kernel
theorem dX8_sum_34 : decode cX8_sum 34 = .ok (.aload_n 0, 1) := by decide +kernel
theorem dX8_sum_35 : decode cX8_sum 35 = .ok (.dup, 1) := by decide +kernel
theorem dX8_sum_36 : decode cX8_sum 36 = .ok (.getfield 132, 3) := by decide +kernel
theorem dX8_sum_39 : decode cX8_sum 39 = .ok (.iconst 1, 1) := by decide +kernel
theorem dX8_sum_40 : decode cX8_sum 40 = .ok (.iadd, 1) := by decide +kernel
theorem dX8_sum_41 : decode cX8_sum 41 = .ok (.putfield 132, 3) := by decide +kernel
theorem dX8_sum_44 : decode cX8_sum 44 = .ok (.aload_n 0, 1) := by decide +kernel
theorem dX8_sum_45 : decode cX8_sum 45 = .ok (.invokevirtual 173, 3) := by decide +kernel
theorem dX8_sum_48 : decode cX8_sum 48 = .ok (.aload_n 0, 1) := by decide +kernel
theorem dX8_sum_49 : decode cX8_sum 49 = .ok (.iload_n 1, 1) := by decide +kernel
theorem dX8_sum_50 : decode cX8_sum 50 = .ok (.iconst 0, 1) := by decide +kernel
theorem dX8_sum_51 : decode cX8_sum 51 = .ok (.invokevirtual 150, 3) := by decide +kernel
theorem dX8_sum_54 : decode cX8_sum 54 = .ok (.goto (-50), 3) := by decide +kernel
theorem dX8_sum_57 : decode cX8_sum 57 = .ok (.return_, 1) := by decide +kernel
theorem dX8_compares_0 : decode cX8_compares 0 = .ok (.aload_n 0, 1) := by decide +kernel
theorem dX8_compares_1 : decode cX8_compares 1 = .ok (.invokevirtual 176, 3) := by decide +kernel
theorem dX8_compares_4 : decode cX8_compares 4 = .ok (.aload_n 0, 1) := by decide +kernel
theorem dX8_compares_5 : decode cX8_compares 5 = .ok (.invokevirtual 142, 3) := by decide +kernel
theorem dX8_compares_8 : decode cX8_compares 8 = .ok (.istore_n 1, 1) := by decide +kernel
theorem dX8_compares_9 : decode cX8_compares 9 = .ok (.aload_n 0, 1) := by decide +kernel
theorem dX8_compares_10 : decode cX8_compares 10 = .ok (.getfield 146, 3) := by decide +kernel
theorem dX8_compares_13 : decode cX8_compares 13 = .ok (.ifCond .ne 41, 3) := by decide +kernel
theorem dX8_compares_16 : decode cX8_compares 16 = .ok (.iload_n 1, 1) := by decide +kernel
theorem dX8_compares_17 : decode cX8_compares 17 = .ok (.bipush 60, 2) := by decide +kernel
theorem dX8_compares_19 : decode cX8_compares 19 = .ok (.if_icmp .eq 15, 3) := by decide +kernel
theorem dX8_compares_22 : decode cX8_compares 22 = .ok (.iload_n 1, 1) := by decide +kernel
theorem dX8_compares_23 : decode cX8_compares 23 = .ok (.bipush 61, 2) := by decide +kernel
theorem dX8_compares_25 : decode cX8_compares 25 = .ok (.if_icmp .eq 9, 3) := by decide +kernel
theorem dX8_compares_28 : decode cX8_compares 28 = .ok (.iload_n 1, 1) := by decide +kernel
theorem dX8_compares_29 : decode cX8_compares 29 = .ok (.bipush 62, 2) := by decide +kernel
theorem dX8_compares_31 : decode cX8_compares 31 = .ok (.if_icmp .ne 23, 3) := by decide +kernel
theorem dX8_compares_34 : decode cX8_compares 34 = .ok (.aload_n 0, 1) := by decide +kernel
theorem dX8_compares_35 : decode cX8_compares 35 = .ok (.dup, 1) := by decide +kernel
theorem dX8_compares_36 : decode cX8_compares 36 = .ok (.getfield 132, 3) := by decide +kernel
theorem dX8_compares_39 : decode cX8_compares 39 = .ok (.iconst 1, 1) := by decide +kernel
theorem dX8_compares_40 : decode cX8_compares 40 = .ok (.iadd, 1) := by decide +kernel
theorem dX8_compares_41 : decode cX8_compares 41 = .ok (.putfield 132, 3) := by decide +kernel
theorem dX8_compares_44 : decode cX8_compares 44 = .ok (.aload_n 0, 1) := by decide +kernel
theorem dX8_compares_45 : decode cX8_compares 45 = .ok (.invokevirtual 176, 3) := by decide +kernel
theorem dX8_compares_48 : decode cX8_compares 48 = .ok (.aload_n 0, 1) := by decide +kernel
theorem dX8_compares_49 : decode cX8_compares 49 = .ok (.iload_n 1, 1) := by decide +kernel
theorem dX8_compares_50 : decode cX8_compares 50 = .ok (.iconst 0, 1) := by decide +kernel
theorem dX8_compares_51 : decode cX8_compares 51 = .ok (.invokevirtual 150, 3) := by decide +kernel
theorem dX8_compares_54 : decode cX8_compares 54 = .ok (.return_, 1) := by decide +kernel
theorem dX8_all_0 : decode cX8_all 0 = .ok (.aload_n 0, 1) := by decide +kernel
theorem dX8_all_1 : decode cX8_all 1 = .ok (.invokevirtual 179, 3) := by decide +kernel
theorem dX8_all_4 : decode cX8_all 4 = .ok (.aload_n 0, 1) := by decide +kernel
theorem dX8_all_5 : decode cX8_all 5 = .ok (.getfield 146, 3) := by decide +kernel
theorem dX8_all_8 : decode cX8_all 8 = .ok (.ifCond .ne 36, 3) := by decide +kernel
theorem dX8_all_11 : decode cX8_all 11 = .ok (.aload_n 0, 1) := by decide +kernel
theorem dX8_all_12 : decode cX8_all 12 = .ok (.invokevirtual 142, 3) := by decide +kernel
theorem dX8_all_15 : decode cX8_all 15 = .ok (.bipush 38, 2) := by decide +kernel
theorem dX8_all_17 : decode cX8_all 17 = .ok (.if_icmp .ne 27, 3) := by decide +kernel
theorem dX8_all_20 : decode cX8_all 20 = .ok (.aload_n 0, 1) := by decide +kernel
theorem dX8_all_21 : decode cX8_all 21 = .ok (.dup, 1) := by decide +kernel
theorem dX8_all_22 : decode cX8_all 22 = .ok (.getfield 132, 3) := by decide +kernel
theorem dX8_all_25 : decode cX8_all 25 = .ok (.iconst 1, 1) := by decide +kernel
theorem dX8_all_26 : decode cX8_all 26 = .ok (.iadd, 1) := by decide +kernel
theorem dX8_all_27 : decode cX8_all 27 = .ok (.putfield 132, 3) := by decide +kernel
theorem dX8_all_30 : decode cX8_all 30 = .ok (.aload_n 0, 1) := by decide +kernel
theorem dX8_all_31 : decode cX8_all 31 = .ok (.invokevirtual 179, 3) := by decide +kernel
theorem dX8_all_34 : decode cX8_all 34 = .ok (.aload_n 0, 1) := by decide +kernel
theorem dX8_all_35 : decode cX8_all 35 = .ok (.bipush 38, 2) := by decide +kernel
theorem dX8_all_37 : decode cX8_all 37 = .ok (.iconst 0, 1) := by decide +kernel
theorem dX8_all_38 : decode cX8_all 38 = .ok (.invokevirtual 150, 3) := by decide +kernel
theorem dX8_all_41 : decode cX8_all 41 = .ok (.goto (-37), 3) := by decide +kernel
theorem dX8_all_44 : decode cX8_all 44 = .ok (.return_, 1) := by decide +kernel
theorem dX8_any_0 : decode cX8_any 0 = .ok (.aload_n 0, 1) := by decide +kernel
theorem dX8_any_1 : decode cX8_any 1 = .ok (.invokevirtual 182, 3) := by decide +kernel
theorem dX8_any_4 : decode cX8_any 4 = .ok (.aload_n 0, 1) := by decide +kernel
theorem dX8_any_5 : decode cX8_any 5 = .ok (.getfield 146, 3) := by decide +kernel
theorem dX8_any_8 : decode cX8_any 8 = .ok (.ifCond .ne 36, 3) := by decide +kernel
theorem dX8_any_11 : decode cX8_any 11 = .ok (.aload_n 0, 1) := by decide +kernel
theorem dX8_any_12 : decode cX8_any 12 = .ok (.invokevirtual 142, 3) := by decide +kernel
theorem dX8_any_15 : decode cX8_any 15 = .ok (.bipush 124, 2) := by decide +kernel
theorem dX8_any_17 : decode cX8_any 17 = .ok (.if_icmp .ne 27, 3) := by decide +kernel
theorem dX8_any_20 : decode cX8_any 20 = .ok (.aload_n 0, 1) := by decide +kernel
theorem dX8_any_21 : decode cX8_any 21 = .ok (.dup, 1) := by decide +kernel
theorem dX8_any_22 : decode cX8_any 22 = .ok (.getfield 132, 3) := by decide +kernel
theorem dX8_any_25 : decode cX8_any 25 = .ok (.iconst 1, 1) := by decide +kernel
theorem dX8_any_26 : decode cX8_any 26 = .ok (.iadd, 1) := by decide +kernel
theorem dX8_any_27 : decode cX8_any 27 = .ok (.putfield 132, 3) := by decide +kernel
theorem dX8_any_30 : decode cX8_any 30 = .ok (.aload_n 0, 1) := by decide +kernel
theorem dX8_any_31 : decode cX8_any 31 = .ok (.invokevirtual 182, 3) := by decide +kernel
theorem dX8_any_34 : decode cX8_any 34 = .ok (.aload_n 0, 1) := by decide +kernel
theorem dX8_any_35 : decode cX8_any 35 = .ok (.bipush 124, 2) := by decide +kernel
theorem dX8_any_37 : decode cX8_any 37 = .ok (.iconst 0, 1) := by decide +kernel
theorem dX8_any_38 : decode cX8_any 38 = .ok (.invokevirtual 150, 3) := by decide +kernel
theorem dX8_any_41 : decode cX8_any 41 = .ok (.goto (-37), 3) := by decide +kernel
theorem dX8_any_44 : decode cX8_any 44 = .ok (.return_, 1) := by decide +kernel
theorem dX8_text_0 : decode cX8_text 0 = .ok (.iload_n 1, 1) := by decide +kernel
theorem dX8_text_1 : decode cX8_text 1 = .ok (.iconst 0, 1) := by decide +kernel
theorem dX8_text_2 : decode cX8_text 2 = .ok (.iconst 1, 1) := by decide +kernel
theorem dX8_text_3 : decode cX8_text 3 = .ok (.invokestatic 51, 3) := by decide +kernel
theorem dX8_text_6 : decode cX8_text 6 = .ok (.ifCond .ne 10, 3) := by decide +kernel
theorem dX8_text_9 : decode cX8_text 9 = .ok (.aload_n 0, 1) := by decide +kernel
theorem dX8_text_10 : decode cX8_text 10 = .ok (.ldc 100, 2) := by decide +kernel
theorem dX8_text_12 : decode cX8_text 12 = .ok (.invokevirtual 101, 3) := by decide +kernel
theorem dX8_text_15 : decode cX8_text 15 = .ok (.ireturn, 1) := by decide +kernel
theorem dX8_text_16 : decode cX8_text 16 = .ok (.aload_n 0, 1) := by decide +kernel
theorem dX8_text_17 : decode cX8_text 17 = .ok (.iload_n 1, 1) := by decide +kernel
theorem dX8_text_18 : decode cX8_text 18 = .ok (.putfield 139, 3) := by decide +kernel
theorem dX8_text_21 : decode cX8_text 21 = .ok (.aload_n 0, 1) := by decide +kernel
theorem dX8_text_22 : decode cX8_text 22 = .ok (.iconst 0, 1) := by decide +kernel
theorem dX8_text_23 : decode cX8_text 23 = .ok (.putfield 136, 3) := by decide +kernel
theorem dX8_text_26 : decode cX8_text 26 = .ok (.aload_n 0, 1) := by decide +kernel
theorem dX8_text_27 : decode cX8_text 27 = .ok (.iconst 0, 1) := by decide +kernel
theorem dX8_text_28 : decode cX8_text 28 = .ok (.putfield 132, 3) := by decide +kernel
theorem dX8_text_31 : decode cX8_text 31 = .ok (.aload_n 0, 1) := by decide +kernel
theorem dX8_text_32 : decode cX8_text 32 = .ok (.iconst 0, 1) := by decide +kernel
theorem dX8_text_33 : decode cX8_text 33 = .ok (.putfield 154, 3) := by decide +kernel
theorem dX8_text_36 : decode cX8_text 36 = .ok (.aload_n 0, 1) := by decide +kernel
theorem dX8_text_37 : decode cX8_text 37 = .ok (.iconst 0, 1) := by decide +kernel
theorem dX8_text_38 : decode cX8_text 38 = .ok (.putfield 146, 3) := by decide +kernel
theorem dX8_text_41 : decode cX8_text 41 = .ok (.aload_n 0, 1) := by decide +kernel
theorem dX8_text_42 : decode cX8_text 42 = .ok (.invokevirtual 160, 3) := by decide +kernel
theorem dX8_text_45 : decode cX8_text 45 = .ok (.aload_n 0, 1) := by decide +kernel
theorem dX8_text_46 : decode cX8_text 46 = .ok (.aload_n 0, 1) := by decide +kernel
theorem dX8_text_47 : decode cX8_text 47 = .ok (.getfield 146, 3) := by decide +kernel
theorem dX8_text_50 : decode cX8_text 50 = .ok (.ifCond .ne 16, 3) := by decide +kernel
theorem dX8_text_53 : decode cX8_text 53 = .ok (.aload_n 0, 1) := by decide +kernel
theorem dX8_text_54 : decode cX8_text 54 = .ok (.getfield 132, 3) := by decide +kernel
theorem dX8_text_57 : decode cX8_text 57 = .ok (.aload_n 0, 1) := by decide +kernel
theorem dX8_text_58 : decode cX8_text 58 = .ok (.getfield 9, 3) := by decide +kernel
theorem dX8_text_61 : decode cX8_text 61 = .ok (.iconst 4, 1) := by decide +kernel
theorem dX8_text_62 : decode cX8_text 62 = .ok (.iaload, 1) := by decide +kernel
theorem dX8_text_63 : decode cX8_text 63 = .ok (.if_icmp .ge 7, 3) := by decide +kernel
theorem dX8_text_66 : decode cX8_text 66 = .ok (.iconst 1, 1) := by decide +kernel
theorem dX8_text_67 : decode cX8_text 67 = .ok (.goto 4, 3) := by decide +kernel
theorem dX8_text_70 : decode cX8_text 70 = .ok (.iconst 0, 1) := by decide +kernel
theorem dX8_text_71 : decode cX8_text 71 = .ok (.putfield 146, 3) := by decide +kernel
theorem dX8_text_74 : decode cX8_text 74 = .ok (.aload_n 0, 1) := by decide +kernel
theorem dX8_text_75 : decode cX8_text 75 = .ok (.getfield 9, 3) := by decide +kernel
theorem dX8_text_78 : decode cX8_text 78 = .ok (.iconst 4, 1) := by decide +kernel
theorem dX8_text_79 : decode cX8_text 79 = .ok (.iconst 0, 1) := by decide +kernel
theorem dX8_text_80 : decode cX8_text 80 = .ok (.iastore, 1) := by decide +kernel
theorem dX8_text_81 : decode cX8_text 81 = .ok (.aload_n 0, 1) := by decide +kernel
theorem dX8_text_82 : decode cX8_text 82 = .ok (.getfield 146, 3) := by decide +kernel
theorem dX8_text_85 : decode cX8_text 85 = .ok (.ifCond .eq 11, 3) := by decide +kernel
theorem dX8_text_88 : decode cX8_text 88 = .ok (.bipush (-10), 2) := by decide +kernel
theorem dX8_text_90 : decode cX8_text 90 = .ok (.aload_n 0, 1) := by decide +kernel
theorem dX8_text_91 : decode cX8_text 91 = .ok (.getfield 132, 3) := by decide +kernel
theorem dX8_text_94 : decode cX8_text 94 = .ok (.isub, 1) := by decide +kernel
theorem dX8_text_95 : decode cX8_text 95 = .ok (.ireturn, 1) := by decide +kernel
theorem dX8_text_96 : decode cX8_text 96 = .ok (.sipush 282, 3) := by decide +kernel
theorem dX8_text_99 : decode cX8_text 99 = .ok (.bipush 121, 2) := by decide +kernel
theorem dX8_text_101 : decode cX8_text 101 = .ok (.iload_n 1, 1) := by decide +kernel
theorem dX8_text_102 : decode cX8_text 102 = .ok (.imul, 1) := by decide +kernel
theorem dX8_text_103 : decode cX8_text 103 = .ok (.iadd, 1) := by decide +kernel
theorem dX8_text_104 : decode cX8_text 104 = .ok (.istore_n 2, 1) := by decide +kernel
theorem dX8_text_105 : decode cX8_text 105 = .ok (.aload_n 0, 1) := by decide +kernel
theorem dX8_text_106 : decode cX8_text 106 = .ok (.getfield 9, 3) := by decide +kernel
theorem dX8_text_109 : decode cX8_text 109 = .ok (.iload_n 2, 1) := by decide +kernel
theorem dX8_text_110 : decode cX8_text 110 = .ok (.aload_n 0, 1) := by decide +kernel
theorem dX8_text_111 : decode cX8_text 111 = .ok (.getfield 136, 3) := by decide +kernel
theorem dX8_text_114 : decode cX8_text 114 = .ok (.iastore, 1) := by decide +kernel
theorem dX8_text_115 : decode cX8_text 115 = .ok (.iconst 0, 1) := by decide +kernel
theorem dX8_text_116 : decode cX8_text 116 = .ok (.istore_n 3, 1) := by decide +kernel
theorem dX8_text_117 : decode cX8_text 117 = .ok (.iload_n 3, 1) := by decide +kernel
theorem dX8_text_118 : decode cX8_text 118 = .ok (.aload_n 0, 1) := by decide +kernel
theorem dX8_text_119 : decode cX8_text 119 = .ok (.getfield 136, 3) := by decide +kernel
theorem dX8_text_122 : decode cX8_text 122 = .ok (.if_icmp .ge 42, 3) := by decide +kernel
theorem dX8_text_125 : decode cX8_text 125 = .ok (.aload_n 0, 1) := by decide +kernel
theorem dX8_text_126 : decode cX8_text 126 = .ok (.getfield 9, 3) := by decide +kernel
theorem dX8_text_129 : decode cX8_text 129 = .ok (.iload_n 2, 1) := by decide +kernel
theorem dX8_text_130 : decode cX8_text 130 = .ok (.iconst 1, 1) := by decide +kernel
theorem dX8_text_131 : decode cX8_text 131 = .ok (.iadd, 1) := by decide +kernel
theorem dX8_text_132 : decode cX8_text 132 = .ok (.iload_n 3, 1) := by decide +kernel
theorem dX8_text_133 : decode cX8_text 133 = .ok (.iadd, 1) := by decide +kernel
theorem dX8_text_134 : decode cX8_text 134 = .ok (.aload_n 0, 1) := by decide +kernel
theorem dX8_text_135 : decode cX8_text 135 = .ok (.getfield 31, 3) := by decide +kernel
theorem dX8_text_138 : decode cX8_text 138 = .ok (.iload_n 3, 1) := by decide +kernel
theorem dX8_text_139 : decode cX8_text 139 = .ok (.iaload, 1) := by decide +kernel
theorem dX8_text_140 : decode cX8_text 140 = .ok (.iastore, 1) := by decide +kernel
theorem dX8_text_141 : decode cX8_text 141 = .ok (.aload_n 0, 1) := by decide +kernel
theorem dX8_text_142 : decode cX8_text 142 = .ok (.getfield 9, 3) := by decide +kernel
theorem dX8_text_145 : decode cX8_text 145 = .ok (.iload_n 2, 1) := by decide +kernel
theorem dX8_text_146 : decode cX8_text 146 = .ok (.bipush 61, 2) := by decide +kernel
theorem dX8_text_148 : decode cX8_text 148 = .ok (.iadd, 1) := by decide +kernel
theorem dX8_text_149 : decode cX8_text 149 = .ok (.iload_n 3, 1) := by decide +kernel
theorem dX8_text_150 : decode cX8_text 150 = .ok (.iadd, 1) := by decide +kernel
theorem dX8_text_151 : decode cX8_text 151 = .ok (.aload_n 0, 1) := by decide +kernel
theorem dX8_text_152 : decode cX8_text 152 = .ok (.getfield 34, 3) := by decide +kernel
theorem dX8_text_155 : decode cX8_text 155 = .ok (.iload_n 3, 1) := by decide +kernel
theorem dX8_text_156 : decode cX8_text 156 = .ok (.iaload, 1) := by decide +kernel
theorem dX8_text_157 : decode cX8_text 157 = .ok (.iastore, 1) := by decide +kernel
theorem dX8_text_158 : decode cX8_text 158 = .ok (.iinc 3 1, 3) := by decide +kernel
theorem dX8_text_161 : decode cX8_text 161 = .ok (.goto (-44), 3) := by decide +kernel
theorem dX8_text_164 : decode cX8_text 164 = .ok (.iconst 1, 1) := by decide +kernel
theorem dX8_text_165 : decode cX8_text 165 = .ok (.ireturn, 1) := by decide +kernel
theorem dX8_untell_0 : decode cX8_untell 0 = .ok (.iload_n 1, 1) := by decide +kernel
theorem dX8_untell_1 : decode cX8_untell 1 = .ok (.iconst 0, 1) := by decide +kernel
theorem dX8_untell_2 : decode cX8_untell 2 = .ok (.iconst 1, 1) := by decide +kernel
theorem dX8_untell_3 : decode cX8_untell 3 = .ok (.invokestatic 51, 3) := by decide +kernel
theorem dX8_untell_6 : decode cX8_untell 6 = .ok (.ifCond .ne 10, 3) := by decide +kernel
theorem dX8_untell_9 : decode cX8_untell 9 = .ok (.aload_n 0, 1) := by decide +kernel
theorem dX8_untell_10 : decode cX8_untell 10 = .ok (.ldc 100, 2) := by decide +kernel
theorem dX8_untell_12 : decode cX8_untell 12 = .ok (.invokevirtual 101, 3) := by decide +kernel
theorem dX8_untell_15 : decode cX8_untell 15 = .ok (.ireturn, 1) := by decide +kernel
theorem dX8_untell_16 : decode cX8_untell 16 = .ok (.aload_n 0, 1) := by decide +kernel
theorem dX8_untell_17 : decode cX8_untell 17 = .ok (.sipush 282, 3) := by decide +kernel
theorem dX8_untell_20 : decode cX8_untell 20 = .ok (.bipush 121, 2) := by decide +kernel
theorem dX8_untell_22 : decode cX8_untell 22 = .ok (.iload_n 1, 1) := by decide +kernel
theorem dX8_untell_23 : decode cX8_untell 23 = .ok (.imul, 1) := by decide +kernel
theorem dX8_untell_24 : decode cX8_untell 24 = .ok (.iadd, 1) := by decide +kernel
theorem dX8_untell_25 : decode cX8_untell 25 = .ok (.iconst 0, 1) := by decide +kernel
theorem dX8_untell_26 : decode cX8_untell 26 = .ok (.invokevirtual 119, 3) := by decide +kernel
theorem dX8_untell_29 : decode cX8_untell 29 = .ok (.ifCond .le 7, 3) := by decide +kernel
theorem dX8_untell_32 : decode cX8_untell 32 = .ok (.iconst 1, 1) := by decide +kernel
theorem dX8_untell_33 : decode cX8_untell 33 = .ok (.goto 4, 3) := by decide +kernel
theorem dX8_untell_36 : decode cX8_untell 36 = .ok (.iconst 0, 1) := by decide +kernel
theorem dX8_untell_37 : decode cX8_untell 37 = .ok (.ireturn, 1) := by decide +kernel
theorem dX8_twoOf_0 : decode cX8_twoOf 0 = .ok (.iload_n 0, 1) := by decide +kernel
theorem dX8_twoOf_1 : decode cX8_twoOf 1 = .ok (.tableswitch 202 37 62 #[143, 188, 202, 202, 202, 127, 119, 202, 123, 202, 131, 202, 202, 202, 202, 202, 202, 202, 202, 202, 202, 202, 202, 155, 166, 177], 119) := by decide +kernel
theorem dX8_twoOf_120 : decode cX8_twoOf 120 = .ok (.iload_n 1, 1) := by decide +kernel
theorem dX8_twoOf_121 : decode cX8_twoOf 121 = .ok (.iload_n 2, 1) := by decide +kernel
theorem dX8_twoOf_122 : decode cX8_twoOf 122 = .ok (.iadd, 1) := by decide +kernel
theorem dX8_twoOf_123 : decode cX8_twoOf 123 = .ok (.ireturn, 1) := by decide +kernel
theorem dX8_twoOf_124 : decode cX8_twoOf 124 = .ok (.iload_n 1, 1) := by decide +kernel
theorem dX8_twoOf_125 : decode cX8_twoOf 125 = .ok (.iload_n 2, 1) := by decide +kernel
theorem dX8_twoOf_126 : decode cX8_twoOf 126 = .ok (.isub, 1) := by decide +kernel
theorem dX8_twoOf_127 : decode cX8_twoOf 127 = .ok (.ireturn, 1) := by decide +kernel
theorem dX8_twoOf_128 : decode cX8_twoOf 128 = .ok (.iload_n 1, 1) := by decide +kernel
theorem dX8_twoOf_129 : decode cX8_twoOf 129 = .ok (.iload_n 2, 1) := by decide +kernel
theorem dX8_twoOf_130 : decode cX8_twoOf 130 = .ok (.imul, 1) := by decide +kernel
theorem dX8_twoOf_131 : decode cX8_twoOf 131 = .ok (.ireturn, 1) := by decide +kernel
theorem dX8_twoOf_132 : decode cX8_twoOf 132 = .ok (.iload_n 2, 1) := by decide +kernel
theorem dX8_twoOf_133 : decode cX8_twoOf 133 = .ok (.ifCond .ne 7, 3) := by decide +kernel
theorem dX8_twoOf_136 : decode cX8_twoOf 136 = .ok (.iconst 0, 1) := by decide +kernel
theorem dX8_twoOf_137 : decode cX8_twoOf 137 = .ok (.goto 6, 3) := by decide +kernel
theorem dX8_twoOf_140 : decode cX8_twoOf 140 = .ok (.iload_n 1, 1) := by decide +kernel
theorem dX8_twoOf_141 : decode cX8_twoOf 141 = .ok (.iload_n 2, 1) := by decide +kernel
theorem dX8_twoOf_142 : decode cX8_twoOf 142 = .ok (.idiv, 1) := by decide +kernel
theorem dX8_twoOf_143 : decode cX8_twoOf 143 = .ok (.ireturn, 1) := by decide +kernel
theorem dX8_twoOf_144 : decode cX8_twoOf 144 = .ok (.iload_n 2, 1) := by decide +kernel
theorem dX8_twoOf_145 : decode cX8_twoOf 145 = .ok (.ifCond .ne 7, 3) := by decide +kernel
theorem dX8_twoOf_148 : decode cX8_twoOf 148 = .ok (.iconst 0, 1) := by decide +kernel
theorem dX8_twoOf_149 : decode cX8_twoOf 149 = .ok (.goto 6, 3) := by decide +kernel
theorem dX8_twoOf_152 : decode cX8_twoOf 152 = .ok (.iload_n 1, 1) := by decide +kernel
theorem dX8_twoOf_153 : decode cX8_twoOf 153 = .ok (.iload_n 2, 1) := by decide +kernel
theorem dX8_twoOf_154 : decode cX8_twoOf 154 = .ok (.irem, 1) := by decide +kernel
theorem dX8_twoOf_155 : decode cX8_twoOf 155 = .ok (.ireturn, 1) := by decide +kernel
theorem dX8_twoOf_156 : decode cX8_twoOf 156 = .ok (.iload_n 1, 1) := by decide +kernel
theorem dX8_twoOf_157 : decode cX8_twoOf 157 = .ok (.iload_n 2, 1) := by decide +kernel
theorem dX8_twoOf_158 : decode cX8_twoOf 158 = .ok (.if_icmp .ge 7, 3) := by decide +kernel
theorem dX8_twoOf_161 : decode cX8_twoOf 161 = .ok (.iconst 1, 1) := by decide +kernel
theorem dX8_twoOf_162 : decode cX8_twoOf 162 = .ok (.goto 4, 3) := by decide +kernel
theorem dX8_twoOf_165 : decode cX8_twoOf 165 = .ok (.iconst 0, 1) := by decide +kernel
theorem dX8_twoOf_166 : decode cX8_twoOf 166 = .ok (.ireturn, 1) := by decide +kernel
theorem dX8_twoOf_167 : decode cX8_twoOf 167 = .ok (.iload_n 1, 1) := by decide +kernel
theorem dX8_twoOf_168 : decode cX8_twoOf 168 = .ok (.iload_n 2, 1) := by decide +kernel
theorem dX8_twoOf_169 : decode cX8_twoOf 169 = .ok (.if_icmp .ne 7, 3) := by decide +kernel
theorem dX8_twoOf_172 : decode cX8_twoOf 172 = .ok (.iconst 1, 1) := by decide +kernel
theorem dX8_twoOf_173 : decode cX8_twoOf 173 = .ok (.goto 4, 3) := by decide +kernel
theorem dX8_twoOf_176 : decode cX8_twoOf 176 = .ok (.iconst 0, 1) := by decide +kernel
theorem dX8_twoOf_177 : decode cX8_twoOf 177 = .ok (.ireturn, 1) := by decide +kernel
theorem dX8_twoOf_178 : decode cX8_twoOf 178 = .ok (.iload_n 1, 1) := by decide +kernel
theorem dX8_twoOf_179 : decode cX8_twoOf 179 = .ok (.iload_n 2, 1) := by decide +kernel
theorem dX8_twoOf_180 : decode cX8_twoOf 180 = .ok (.if_icmp .le 7, 3) := by decide +kernel
theorem dX8_twoOf_183 : decode cX8_twoOf 183 = .ok (.iconst 1, 1) := by decide +kernel
theorem dX8_twoOf_184 : decode cX8_twoOf 184 = .ok (.goto 4, 3) := by decide +kernel
theorem dX8_twoOf_187 : decode cX8_twoOf 187 = .ok (.iconst 0, 1) := by decide +kernel
theorem dX8_twoOf_188 : decode cX8_twoOf 188 = .ok (.ireturn, 1) := by decide +kernel
theorem dX8_twoOf_189 : decode cX8_twoOf 189 = .ok (.iload_n 1, 1) := by decide +kernel
theorem dX8_twoOf_190 : decode cX8_twoOf 190 = .ok (.ifCond .eq 11, 3) := by decide +kernel
theorem dX8_twoOf_193 : decode cX8_twoOf 193 = .ok (.iload_n 2, 1) := by decide +kernel
theorem dX8_twoOf_194 : decode cX8_twoOf 194 = .ok (.ifCond .eq 7, 3) := by decide +kernel
theorem dX8_twoOf_197 : decode cX8_twoOf 197 = .ok (.iconst 1, 1) := by decide +kernel
theorem dX8_twoOf_198 : decode cX8_twoOf 198 = .ok (.goto 4, 3) := by decide +kernel
theorem dX8_twoOf_201 : decode cX8_twoOf 201 = .ok (.iconst 0, 1) := by decide +kernel
theorem dX8_twoOf_202 : decode cX8_twoOf 202 = .ok (.ireturn, 1) := by decide +kernel
theorem dX8_twoOf_203 : decode cX8_twoOf 203 = .ok (.iload_n 1, 1) := by decide +kernel
theorem dX8_twoOf_204 : decode cX8_twoOf 204 = .ok (.ifCond .ne 7, 3) := by decide +kernel
theorem dX8_twoOf_207 : decode cX8_twoOf 207 = .ok (.iload_n 2, 1) := by decide +kernel
theorem dX8_twoOf_208 : decode cX8_twoOf 208 = .ok (.ifCond .eq 7, 3) := by decide +kernel
theorem dX8_twoOf_211 : decode cX8_twoOf 211 = .ok (.iconst 1, 1) := by decide +kernel
theorem dX8_twoOf_212 : decode cX8_twoOf 212 = .ok (.goto 4, 3) := by decide +kernel
theorem dX8_twoOf_215 : decode cX8_twoOf 215 = .ok (.iconst 0, 1) := by decide +kernel
theorem dX8_twoOf_216 : decode cX8_twoOf 216 = .ok (.ireturn, 1) := by decide +kernel
theorem dX8_works_0 : decode cX8_works 0 = .ok (.iconst 0, 1) := by decide +kernel
theorem dX8_works_1 : decode cX8_works 1 = .ok (.istore_n 2, 1) := by decide +kernel
theorem dX8_works_2 : decode cX8_works 2 = .ok (.iconst 0, 1) := by decide +kernel
theorem dX8_works_3 : decode cX8_works 3 = .ok (.istore_n 3, 1) := by decide +kernel
theorem dX8_works_4 : decode cX8_works 4 = .ok (.iload_n 3, 1) := by decide +kernel
theorem dX8_works_5 : decode cX8_works 5 = .ok (.aload_n 0, 1) := by decide +kernel
theorem dX8_works_6 : decode cX8_works 6 = .ok (.getfield 9, 3) := by decide +kernel
theorem dX8_works_9 : decode cX8_works 9 = .ok (.iload_n 1, 1) := by decide +kernel
theorem dX8_works_10 : decode cX8_works 10 = .ok (.iaload, 1) := by decide +kernel
theorem dX8_works_11 : decode cX8_works 11 = .ok (.if_icmp .ge 144, 3) := by decide +kernel
theorem dX8_works_14 : decode cX8_works 14 = .ok (.aload_n 0, 1) := by decide +kernel
theorem dX8_works_15 : decode cX8_works 15 = .ok (.getfield 9, 3) := by decide +kernel
theorem dX8_works_18 : decode cX8_works 18 = .ok (.iload_n 1, 1) := by decide +kernel
theorem dX8_works_19 : decode cX8_works 19 = .ok (.iconst 1, 1) := by decide +kernel
theorem dX8_works_20 : decode cX8_works 20 = .ok (.iadd, 1) := by decide +kernel
theorem dX8_works_21 : decode cX8_works 21 = .ok (.iload_n 3, 1) := by decide +kernel
theorem dX8_works_22 : decode cX8_works 22 = .ok (.iadd, 1) := by decide +kernel
theorem dX8_works_23 : decode cX8_works 23 = .ok (.iaload, 1) := by decide +kernel
theorem dX8_works_24 : decode cX8_works 24 = .ok (.istore 4, 2) := by decide +kernel
theorem dX8_works_26 : decode cX8_works 26 = .ok (.iload 4, 2) := by decide +kernel
theorem dX8_works_28 : decode cX8_works 28 = .ok (.iconst 1, 1) := by decide +kernel
theorem dX8_works_29 : decode cX8_works 29 = .ok (.if_icmp .eq 9, 3) := by decide +kernel
theorem dX8_works_32 : decode cX8_works 32 = .ok (.iload 4, 2) := by decide +kernel
theorem dX8_works_34 : decode cX8_works 34 = .ok (.iconst 2, 1) := by decide +kernel
theorem dX8_works_35 : decode cX8_works 35 = .ok (.if_icmp .ne 51, 3) := by decide +kernel
theorem dX8_works_38 : decode cX8_works 38 = .ok (.aload_n 0, 1) := by decide +kernel
theorem dX8_works_39 : decode cX8_works 39 = .ok (.getfield 40, 3) := by decide +kernel
theorem dX8_works_42 : decode cX8_works 42 = .ok (.iload_n 2, 1) := by decide +kernel
theorem dX8_works_43 : decode cX8_works 43 = .ok (.iload 4, 2) := by decide +kernel
theorem dX8_works_45 : decode cX8_works 45 = .ok (.iconst 1, 1) := by decide +kernel
theorem dX8_works_46 : decode cX8_works 46 = .ok (.if_icmp .ne 17, 3) := by decide +kernel
theorem dX8_works_49 : decode cX8_works 49 = .ok (.aload_n 0, 1) := by decide +kernel
theorem dX8_works_50 : decode cX8_works 50 = .ok (.getfield 9, 3) := by decide +kernel
theorem dX8_works_53 : decode cX8_works 53 = .ok (.iload_n 1, 1) := by decide +kernel
theorem dX8_works_54 : decode cX8_works 54 = .ok (.bipush 61, 2) := by decide +kernel
theorem dX8_works_56 : decode cX8_works 56 = .ok (.iadd, 1) := by decide +kernel
theorem dX8_works_57 : decode cX8_works 57 = .ok (.iload_n 3, 1) := by decide +kernel
theorem dX8_works_58 : decode cX8_works 58 = .ok (.iadd, 1) := by decide +kernel
theorem dX8_works_59 : decode cX8_works 59 = .ok (.iaload, 1) := by decide +kernel
theorem dX8_works_60 : decode cX8_works 60 = .ok (.goto 19, 3) := by decide +kernel
theorem dX8_works_63 : decode cX8_works 63 = .ok (.aload_n 0, 1) := by decide +kernel
theorem dX8_works_64 : decode cX8_works 64 = .ok (.getfield 37, 3) := by decide +kernel
theorem dX8_works_67 : decode cX8_works 67 = .ok (.aload_n 0, 1) := by decide +kernel
theorem dX8_works_68 : decode cX8_works 68 = .ok (.getfield 9, 3) := by decide +kernel
theorem dX8_works_71 : decode cX8_works 71 = .ok (.iload_n 1, 1) := by decide +kernel
theorem dX8_works_72 : decode cX8_works 72 = .ok (.bipush 61, 2) := by decide +kernel
theorem dX8_works_74 : decode cX8_works 74 = .ok (.iadd, 1) := by decide +kernel
theorem dX8_works_75 : decode cX8_works 75 = .ok (.iload_n 3, 1) := by decide +kernel
theorem dX8_works_76 : decode cX8_works 76 = .ok (.iadd, 1) := by decide +kernel
theorem dX8_works_77 : decode cX8_works 77 = .ok (.iaload, 1) := by decide +kernel
theorem dX8_works_78 : decode cX8_works 78 = .ok (.iaload, 1) := by decide +kernel
theorem dX8_works_79 : decode cX8_works 79 = .ok (.iastore, 1) := by decide +kernel
theorem dX8_works_80 : decode cX8_works 80 = .ok (.iinc 2 1, 3) := by decide +kernel
theorem dX8_works_83 : decode cX8_works 83 = .ok (.goto 66, 3) := by decide +kernel
theorem dX8_works_86 : decode cX8_works 86 = .ok (.iload 4, 2) := by decide +kernel
theorem dX8_works_88 : decode cX8_works 88 = .ok (.iconst 3, 1) := by decide +kernel
theorem dX8_works_89 : decode cX8_works 89 = .ok (.if_icmp .ne 30, 3) := by decide +kernel
theorem dX8_works_92 : decode cX8_works 92 = .ok (.aload_n 0, 1) := by decide +kernel
theorem dX8_works_93 : decode cX8_works 93 = .ok (.getfield 40, 3) := by decide +kernel
theorem dX8_works_96 : decode cX8_works 96 = .ok (.iload_n 2, 1) := by decide +kernel
theorem dX8_works_97 : decode cX8_works 97 = .ok (.iconst 1, 1) := by decide +kernel
theorem dX8_works_98 : decode cX8_works 98 = .ok (.isub, 1) := by decide +kernel
theorem dX8_works_99 : decode cX8_works 99 = .ok (.aload_n 0, 1) := by decide +kernel
theorem dX8_works_100 : decode cX8_works 100 = .ok (.getfield 40, 3) := by decide +kernel
theorem dX8_works_103 : decode cX8_works 103 = .ok (.iload_n 2, 1) := by decide +kernel
theorem dX8_works_104 : decode cX8_works 104 = .ok (.iconst 1, 1) := by decide +kernel
theorem dX8_works_105 : decode cX8_works 105 = .ok (.isub, 1) := by decide +kernel
theorem dX8_works_106 : decode cX8_works 106 = .ok (.iaload, 1) := by decide +kernel
theorem dX8_works_107 : decode cX8_works 107 = .ok (.ifCond .ne 7, 3) := by decide +kernel
theorem dX8_works_110 : decode cX8_works 110 = .ok (.iconst 1, 1) := by decide +kernel
theorem dX8_works_111 : decode cX8_works 111 = .ok (.goto 4, 3) := by decide +kernel
theorem dX8_works_114 : decode cX8_works 114 = .ok (.iconst 0, 1) := by decide +kernel
theorem dX8_works_115 : decode cX8_works 115 = .ok (.iastore, 1) := by decide +kernel
theorem dX8_works_116 : decode cX8_works 116 = .ok (.goto 33, 3) := by decide +kernel
theorem dX8_works_119 : decode cX8_works 119 = .ok (.iinc 2 (-1), 3) := by decide +kernel
theorem dX8_works_122 : decode cX8_works 122 = .ok (.aload_n 0, 1) := by decide +kernel
theorem dX8_works_123 : decode cX8_works 123 = .ok (.getfield 40, 3) := by decide +kernel
theorem dX8_works_126 : decode cX8_works 126 = .ok (.iload_n 2, 1) := by decide +kernel
theorem dX8_works_127 : decode cX8_works 127 = .ok (.iconst 1, 1) := by decide +kernel
theorem dX8_works_128 : decode cX8_works 128 = .ok (.isub, 1) := by decide +kernel
theorem dX8_works_129 : decode cX8_works 129 = .ok (.iload 4, 2) := by decide +kernel
theorem dX8_works_131 : decode cX8_works 131 = .ok (.aload_n 0, 1) := by decide +kernel
theorem dX8_works_132 : decode cX8_works 132 = .ok (.getfield 40, 3) := by decide +kernel
theorem dX8_works_135 : decode cX8_works 135 = .ok (.iload_n 2, 1) := by decide +kernel
theorem dX8_works_136 : decode cX8_works 136 = .ok (.iconst 1, 1) := by decide +kernel
theorem dX8_works_137 : decode cX8_works 137 = .ok (.isub, 1) := by decide +kernel
theorem dX8_works_138 : decode cX8_works 138 = .ok (.iaload, 1) := by decide +kernel
theorem dX8_works_139 : decode cX8_works 139 = .ok (.aload_n 0, 1) := by decide +kernel
theorem dX8_works_140 : decode cX8_works 140 = .ok (.getfield 40, 3) := by decide +kernel
theorem dX8_works_143 : decode cX8_works 143 = .ok (.iload_n 2, 1) := by decide +kernel
theorem dX8_works_144 : decode cX8_works 144 = .ok (.iaload, 1) := by decide +kernel
theorem dX8_works_145 : decode cX8_works 145 = .ok (.invokestatic 185, 3) := by decide +kernel
theorem dX8_works_148 : decode cX8_works 148 = .ok (.iastore, 1) := by decide +kernel
theorem dX8_works_149 : decode cX8_works 149 = .ok (.iinc 3 1, 3) := by decide +kernel
theorem dX8_works_152 : decode cX8_works 152 = .ok (.goto (-148), 3) := by decide +kernel
theorem dX8_works_155 : decode cX8_works 155 = .ok (.aload_n 0, 1) := by decide +kernel
theorem dX8_works_156 : decode cX8_works 156 = .ok (.getfield 40, 3) := by decide +kernel
theorem dX8_works_159 : decode cX8_works 159 = .ok (.iconst 0, 1) := by decide +kernel
theorem dX8_works_160 : decode cX8_works 160 = .ok (.iaload, 1) := by decide +kernel
theorem dX8_works_161 : decode cX8_works 161 = .ok (.ireturn, 1) := by decide +kernel
theorem dX8_gives_0 : decode cX8_gives 0 = .ok (.sipush 282, 3) := by decide +kernel
theorem dX8_gives_3 : decode cX8_gives 3 = .ok (.bipush 121, 2) := by decide +kernel
theorem dX8_gives_5 : decode cX8_gives 5 = .ok (.iload_n 1, 1) := by decide +kernel
theorem dX8_gives_6 : decode cX8_gives 6 = .ok (.imul, 1) := by decide +kernel
theorem dX8_gives_7 : decode cX8_gives 7 = .ok (.iadd, 1) := by decide +kernel
theorem dX8_gives_8 : decode cX8_gives 8 = .ok (.istore 5, 2) := by decide +kernel
theorem dX8_gives_10 : decode cX8_gives 10 = .ok (.aload_n 0, 1) := by decide +kernel
theorem dX8_gives_11 : decode cX8_gives 11 = .ok (.getfield 37, 3) := by decide +kernel
theorem dX8_gives_14 : decode cX8_gives 14 = .ok (.iconst 0, 1) := by decide +kernel
theorem dX8_gives_15 : decode cX8_gives 15 = .ok (.iload_n 2, 1) := by decide +kernel
theorem dX8_gives_16 : decode cX8_gives 16 = .ok (.iastore, 1) := by decide +kernel
theorem dX8_gives_17 : decode cX8_gives 17 = .ok (.aload_n 0, 1) := by decide +kernel
theorem dX8_gives_18 : decode cX8_gives 18 = .ok (.getfield 37, 3) := by decide +kernel
theorem dX8_gives_21 : decode cX8_gives 21 = .ok (.iconst 1, 1) := by decide +kernel
theorem dX8_gives_22 : decode cX8_gives 22 = .ok (.iload_n 3, 1) := by decide +kernel
theorem dX8_gives_23 : decode cX8_gives 23 = .ok (.iastore, 1) := by decide +kernel
theorem dX8_gives_24 : decode cX8_gives 24 = .ok (.aload_n 0, 1) := by decide +kernel
theorem dX8_gives_25 : decode cX8_gives 25 = .ok (.getfield 37, 3) := by decide +kernel
theorem dX8_gives_28 : decode cX8_gives 28 = .ok (.iconst 2, 1) := by decide +kernel
theorem dX8_gives_29 : decode cX8_gives 29 = .ok (.iload 4, 2) := by decide +kernel
theorem dX8_gives_31 : decode cX8_gives 31 = .ok (.iastore, 1) := by decide +kernel
theorem dX8_gives_32 : decode cX8_gives 32 = .ok (.aload_n 0, 1) := by decide +kernel
theorem dX8_gives_33 : decode cX8_gives 33 = .ok (.getfield 9, 3) := by decide +kernel
theorem dX8_gives_36 : decode cX8_gives 36 = .ok (.iload 5, 2) := by decide +kernel
theorem dX8_gives_38 : decode cX8_gives 38 = .ok (.iaload, 1) := by decide +kernel
theorem dX8_gives_39 : decode cX8_gives 39 = .ok (.ifCond .le 12, 3) := by decide +kernel
theorem dX8_gives_42 : decode cX8_gives 42 = .ok (.aload_n 0, 1) := by decide +kernel
theorem dX8_gives_43 : decode cX8_gives 43 = .ok (.iload 5, 2) := by decide +kernel
theorem dX8_gives_45 : decode cX8_gives 45 = .ok (.invokevirtual 189, 3) := by decide +kernel
theorem dX8_gives_48 : decode cX8_gives 48 = .ok (.goto 16, 3) := by decide +kernel
theorem dX8_gives_51 : decode cX8_gives 51 = .ok (.iload_n 1, 1) := by decide +kernel
theorem dX8_gives_52 : decode cX8_gives 52 = .ok (.ifCond .ne 9, 3) := by decide +kernel
theorem dX8_gives_55 : decode cX8_gives 55 = .ok (.iload_n 2, 1) := by decide +kernel
theorem dX8_gives_56 : decode cX8_gives 56 = .ok (.iload_n 3, 1) := by decide +kernel
theorem dX8_gives_57 : decode cX8_gives 57 = .ok (.iadd, 1) := by decide +kernel
theorem dX8_gives_58 : decode cX8_gives 58 = .ok (.goto 6, 3) := by decide +kernel
theorem dX8_gives_61 : decode cX8_gives 61 = .ok (.iload_n 3, 1) := by decide +kernel
theorem dX8_gives_62 : decode cX8_gives 62 = .ok (.iconst 1, 1) := by decide +kernel
theorem dX8_gives_63 : decode cX8_gives 63 = .ok (.iadd, 1) := by decide +kernel
theorem dX8_gives_64 : decode cX8_gives 64 = .ok (.istore 6, 2) := by decide +kernel
theorem dX8_gives_66 : decode cX8_gives 66 = .ok (.iload_n 1, 1) := by decide +kernel
theorem dX8_gives_67 : decode cX8_gives 67 = .ok (.ifCond .ne 15, 3) := by decide +kernel
theorem dX8_gives_70 : decode cX8_gives 70 = .ok (.iload 6, 2) := by decide +kernel
theorem dX8_gives_72 : decode cX8_gives 72 = .ok (.iconst 0, 1) := by decide +kernel
theorem dX8_gives_73 : decode cX8_gives 73 = .ok (.sipush 999, 3) := by decide +kernel
theorem dX8_gives_76 : decode cX8_gives 76 = .ok (.invokestatic 192, 3) := by decide +kernel
theorem dX8_gives_79 : decode cX8_gives 79 = .ok (.goto 12, 3) := by decide +kernel
theorem dX8_gives_82 : decode cX8_gives 82 = .ok (.iload 6, 2) := by decide +kernel
theorem dX8_gives_84 : decode cX8_gives 84 = .ok (.bipush (-9), 2) := by decide +kernel
theorem dX8_gives_86 : decode cX8_gives 86 = .ok (.bipush 9, 2) := by decide +kernel
theorem dX8_gives_88 : decode cX8_gives 88 = .ok (.invokestatic 192, 3) := by decide +kernel
theorem dX8_gives_91 : decode cX8_gives 91 = .ok (.ireturn, 1) := by decide +kernel
theorem dX8_law_0 : decode cX8_law 0 = .ok (.iload_n 1, 1) := by decide +kernel
theorem dX8_law_1 : decode cX8_law 1 = .ok (.iconst 0, 1) := by decide +kernel
theorem dX8_law_2 : decode cX8_law 2 = .ok (.iconst 1, 1) := by decide +kernel
theorem dX8_law_3 : decode cX8_law 3 = .ok (.invokestatic 51, 3) := by decide +kernel
theorem dX8_law_6 : decode cX8_law 6 = .ok (.ifCond .eq 15, 3) := by decide +kernel
theorem dX8_law_9 : decode cX8_law 9 = .ok (.aload_n 0, 1) := by decide +kernel
theorem dX8_law_10 : decode cX8_law 10 = .ok (.iload_n 1, 1) := by decide +kernel
theorem dX8_law_11 : decode cX8_law 11 = .ok (.iload_n 2, 1) := by decide +kernel
theorem dX8_law_12 : decode cX8_law 12 = .ok (.iload_n 3, 1) := by decide +kernel
theorem dX8_law_13 : decode cX8_law 13 = .ok (.iload 4, 2) := by decide +kernel
theorem dX8_law_15 : decode cX8_law 15 = .ok (.invokevirtual 92, 3) := by decide +kernel
theorem dX8_law_18 : decode cX8_law 18 = .ok (.goto 9, 3) := by decide +kernel
theorem dX8_law_21 : decode cX8_law 21 = .ok (.aload_n 0, 1) := by decide +kernel
theorem dX8_law_22 : decode cX8_law 22 = .ok (.ldc 100, 2) := by decide +kernel
theorem dX8_law_24 : decode cX8_law 24 = .ok (.invokevirtual 101, 3) := by decide +kernel
theorem dX8_law_27 : decode cX8_law 27 = .ok (.ireturn, 1) := by decide +kernel
theorem dX8_goes_0 : decode cX8_goes 0 = .ok (.aload_n 0, 1) := by decide +kernel
theorem dX8_goes_1 : decode cX8_goes 1 = .ok (.invokevirtual 195, 3) := by decide +kernel
theorem dX8_goes_4 : decode cX8_goes 4 = .ok (.iconst 0, 1) := by decide +kernel
theorem dX8_goes_5 : decode cX8_goes 5 = .ok (.istore_n 1, 1) := by decide +kernel
theorem dX8_goes_6 : decode cX8_goes 6 = .ok (.iload_n 1, 1) := by decide +kernel
theorem dX8_goes_7 : decode cX8_goes 7 = .ok (.aload_n 0, 1) := by decide +kernel
theorem dX8_goes_8 : decode cX8_goes 8 = .ok (.getfield 9, 3) := by decide +kernel
theorem dX8_goes_11 : decode cX8_goes 11 = .ok (.iconst 2, 1) := by decide +kernel
theorem dX8_goes_12 : decode cX8_goes 12 = .ok (.iaload, 1) := by decide +kernel
theorem dX8_goes_13 : decode cX8_goes 13 = .ok (.if_icmp .ge 33, 3) := by decide +kernel
theorem dX8_goes_16 : decode cX8_goes 16 = .ok (.aload_n 0, 1) := by decide +kernel
theorem dX8_goes_17 : decode cX8_goes 17 = .ok (.iload_n 1, 1) := by decide +kernel
theorem dX8_goes_18 : decode cX8_goes 18 = .ok (.iconst 4, 1) := by decide +kernel
theorem dX8_goes_19 : decode cX8_goes 19 = .ok (.aload_n 0, 1) := by decide +kernel
theorem dX8_goes_20 : decode cX8_goes 20 = .ok (.iload_n 1, 1) := by decide +kernel
theorem dX8_goes_21 : decode cX8_goes 21 = .ok (.iconst 4, 1) := by decide +kernel
theorem dX8_goes_22 : decode cX8_goes 22 = .ok (.invokevirtual 55, 3) := by decide +kernel
theorem dX8_goes_25 : decode cX8_goes 25 = .ok (.aload_n 0, 1) := by decide +kernel
theorem dX8_goes_26 : decode cX8_goes 26 = .ok (.iload_n 1, 1) := by decide +kernel
theorem dX8_goes_27 : decode cX8_goes 27 = .ok (.invokevirtual 112, 3) := by decide +kernel
theorem dX8_goes_30 : decode cX8_goes 30 = .ok (.iadd, 1) := by decide +kernel
theorem dX8_goes_31 : decode cX8_goes 31 = .ok (.iconst 0, 1) := by decide +kernel
theorem dX8_goes_32 : decode cX8_goes 32 = .ok (.ldc 198, 2) := by decide +kernel
theorem dX8_goes_34 : decode cX8_goes 34 = .ok (.invokestatic 192, 3) := by decide +kernel
theorem dX8_goes_37 : decode cX8_goes 37 = .ok (.invokevirtual 65, 3) := by decide +kernel
theorem dX8_goes_40 : decode cX8_goes 40 = .ok (.iinc 1 1, 3) := by decide +kernel
theorem dX8_goes_43 : decode cX8_goes 43 = .ok (.goto (-37), 3) := by decide +kernel
theorem dX8_goes_46 : decode cX8_goes 46 = .ok (.iconst 0, 1) := by decide +kernel
theorem dX8_goes_47 : decode cX8_goes 47 = .ok (.istore_n 1, 1) := by decide +kernel
theorem dX8_goes_48 : decode cX8_goes 48 = .ok (.iload_n 1, 1) := by decide +kernel
theorem dX8_goes_49 : decode cX8_goes 49 = .ok (.aload_n 0, 1) := by decide +kernel
theorem dX8_goes_50 : decode cX8_goes 50 = .ok (.getfield 9, 3) := by decide +kernel
theorem dX8_goes_53 : decode cX8_goes 53 = .ok (.iconst 3, 1) := by decide +kernel
theorem dX8_goes_54 : decode cX8_goes 54 = .ok (.iaload, 1) := by decide +kernel
theorem dX8_goes_55 : decode cX8_goes 55 = .ok (.if_icmp .ge 77, 3) := by decide +kernel
theorem dX8_goes_58 : decode cX8_goes 58 = .ok (.aload_n 0, 1) := by decide +kernel
theorem dX8_goes_59 : decode cX8_goes 59 = .ok (.getfield 9, 3) := by decide +kernel
theorem dX8_goes_62 : decode cX8_goes 62 = .ok (.bipush 58, 2) := by decide +kernel
theorem dX8_goes_64 : decode cX8_goes 64 = .ok (.iconst 2, 1) := by decide +kernel
theorem dX8_goes_65 : decode cX8_goes 65 = .ok (.iload_n 1, 1) := by decide +kernel
theorem dX8_goes_66 : decode cX8_goes 66 = .ok (.imul, 1) := by decide +kernel
theorem dX8_goes_67 : decode cX8_goes 67 = .ok (.iadd, 1) := by decide +kernel
theorem dX8_goes_68 : decode cX8_goes 68 = .ok (.iaload, 1) := by decide +kernel
theorem dX8_goes_69 : decode cX8_goes 69 = .ok (.istore_n 2, 1) := by decide +kernel
theorem dX8_goes_70 : decode cX8_goes 70 = .ok (.aload_n 0, 1) := by decide +kernel
theorem dX8_goes_71 : decode cX8_goes 71 = .ok (.iconst 1, 1) := by decide +kernel
theorem dX8_goes_72 : decode cX8_goes 72 = .ok (.iload_n 2, 1) := by decide +kernel
theorem dX8_goes_73 : decode cX8_goes 73 = .ok (.aload_n 0, 1) := by decide +kernel
theorem dX8_goes_74 : decode cX8_goes 74 = .ok (.iload_n 2, 1) := by decide +kernel
theorem dX8_goes_75 : decode cX8_goes 75 = .ok (.invokevirtual 127, 3) := by decide +kernel
theorem dX8_goes_78 : decode cX8_goes 78 = .ok (.aload_n 0, 1) := by decide +kernel
theorem dX8_goes_79 : decode cX8_goes 79 = .ok (.getfield 9, 3) := by decide +kernel
theorem dX8_goes_82 : decode cX8_goes 82 = .ok (.iconst 0, 1) := by decide +kernel
theorem dX8_goes_83 : decode cX8_goes 83 = .ok (.iaload, 1) := by decide +kernel
theorem dX8_goes_84 : decode cX8_goes 84 = .ok (.bipush 7, 2) := by decide +kernel
theorem dX8_goes_86 : decode cX8_goes 86 = .ok (.irem, 1) := by decide +kernel
theorem dX8_goes_87 : decode cX8_goes 87 = .ok (.invokevirtual 92, 3) := by decide +kernel
theorem dX8_goes_90 : decode cX8_goes 90 = .ok (.istore_n 3, 1) := by decide +kernel
theorem dX8_goes_91 : decode cX8_goes 91 = .ok (.aload_n 0, 1) := by decide +kernel
theorem dX8_goes_92 : decode cX8_goes 92 = .ok (.getfield 9, 3) := by decide +kernel
theorem dX8_goes_95 : decode cX8_goes 95 = .ok (.bipush 58, 2) := by decide +kernel
theorem dX8_goes_97 : decode cX8_goes 97 = .ok (.iconst 2, 1) := by decide +kernel
theorem dX8_goes_98 : decode cX8_goes 98 = .ok (.iload_n 1, 1) := by decide +kernel
theorem dX8_goes_99 : decode cX8_goes 99 = .ok (.imul, 1) := by decide +kernel
theorem dX8_goes_100 : decode cX8_goes 100 = .ok (.iadd, 1) := by decide +kernel
theorem dX8_goes_101 : decode cX8_goes 101 = .ok (.iconst 1, 1) := by decide +kernel
theorem dX8_goes_102 : decode cX8_goes 102 = .ok (.iadd, 1) := by decide +kernel
theorem dX8_goes_103 : decode cX8_goes 103 = .ok (.aload_n 0, 1) := by decide +kernel
theorem dX8_goes_104 : decode cX8_goes 104 = .ok (.getfield 9, 3) := by decide +kernel
theorem dX8_goes_107 : decode cX8_goes 107 = .ok (.bipush 58, 2) := by decide +kernel
theorem dX8_goes_109 : decode cX8_goes 109 = .ok (.iconst 2, 1) := by decide +kernel
theorem dX8_goes_110 : decode cX8_goes 110 = .ok (.iload_n 1, 1) := by decide +kernel
theorem dX8_goes_111 : decode cX8_goes 111 = .ok (.imul, 1) := by decide +kernel
theorem dX8_goes_112 : decode cX8_goes 112 = .ok (.iadd, 1) := by decide +kernel
theorem dX8_goes_113 : decode cX8_goes 113 = .ok (.iconst 1, 1) := by decide +kernel
theorem dX8_goes_114 : decode cX8_goes 114 = .ok (.iadd, 1) := by decide +kernel
theorem dX8_goes_115 : decode cX8_goes 115 = .ok (.iaload, 1) := by decide +kernel
theorem dX8_goes_116 : decode cX8_goes 116 = .ok (.iload_n 3, 1) := by decide +kernel
theorem dX8_goes_117 : decode cX8_goes 117 = .ok (.iadd, 1) := by decide +kernel
theorem dX8_goes_118 : decode cX8_goes 118 = .ok (.iconst 0, 1) := by decide +kernel
theorem dX8_goes_119 : decode cX8_goes 119 = .ok (.sipush 999, 3) := by decide +kernel
theorem dX8_goes_122 : decode cX8_goes 122 = .ok (.invokestatic 192, 3) := by decide +kernel
theorem dX8_goes_125 : decode cX8_goes 125 = .ok (.iastore, 1) := by decide +kernel
theorem dX8_goes_126 : decode cX8_goes 126 = .ok (.iinc 1 1, 3) := by decide +kernel
theorem dX8_goes_129 : decode cX8_goes 129 = .ok (.goto (-81), 3) := by decide +kernel
theorem dX8_goes_132 : decode cX8_goes 132 = .ok (.return_, 1) := by decide +kernel
theorem dX8_dawns_0 : decode cX8_dawns 0 = .ok (.iload_n 1, 1) := by decide +kernel
theorem dX8_dawns_1 : decode cX8_dawns 1 = .ok (.iconst 1, 1) := by decide +kernel
theorem dX8_dawns_2 : decode cX8_dawns 2 = .ok (.bipush 60, 2) := by decide +kernel
theorem dX8_dawns_4 : decode cX8_dawns 4 = .ok (.invokestatic 51, 3) := by decide +kernel
theorem dX8_dawns_7 : decode cX8_dawns 7 = .ok (.ifCond .ne 10, 3) := by decide +kernel
theorem dX8_dawns_10 : decode cX8_dawns 10 = .ok (.aload_n 0, 1) := by decide +kernel
theorem dX8_dawns_11 : decode cX8_dawns 11 = .ok (.ldc 100, 2) := by decide +kernel
theorem dX8_dawns_13 : decode cX8_dawns 13 = .ok (.invokevirtual 101, 3) := by decide +kernel
theorem dX8_dawns_16 : decode cX8_dawns 16 = .ok (.ireturn, 1) := by decide +kernel
theorem dX8_dawns_17 : decode cX8_dawns 17 = .ok (.aload_n 0, 1) := by decide +kernel
theorem dX8_dawns_18 : decode cX8_dawns 18 = .ok (.getfield 9, 3) := by decide +kernel
theorem dX8_dawns_21 : decode cX8_dawns 21 = .ok (.iconst 0, 1) := by decide +kernel
theorem dX8_dawns_22 : decode cX8_dawns 22 = .ok (.iaload, 1) := by decide +kernel
theorem dX8_dawns_23 : decode cX8_dawns 23 = .ok (.iload_n 1, 1) := by decide +kernel
theorem dX8_dawns_24 : decode cX8_dawns 24 = .ok (.iadd, 1) := by decide +kernel
theorem dX8_dawns_25 : decode cX8_dawns 25 = .ok (.sipush 9999, 3) := by decide +kernel
theorem dX8_dawns_28 : decode cX8_dawns 28 = .ok (.if_icmp .le 10, 3) := by decide +kernel
theorem dX8_dawns_31 : decode cX8_dawns 31 = .ok (.aload_n 0, 1) := by decide +kernel
theorem dX8_dawns_32 : decode cX8_dawns 32 = .ok (.ldc 123, 2) := by decide +kernel
theorem dX8_dawns_34 : decode cX8_dawns 34 = .ok (.invokevirtual 101, 3) := by decide +kernel
theorem dX8_dawns_37 : decode cX8_dawns 37 = .ok (.ireturn, 1) := by decide +kernel
theorem dX8_dawns_38 : decode cX8_dawns 38 = .ok (.iconst 0, 1) := by decide +kernel
theorem dX8_dawns_39 : decode cX8_dawns 39 = .ok (.istore_n 2, 1) := by decide +kernel
theorem dX8_dawns_40 : decode cX8_dawns 40 = .ok (.iload_n 2, 1) := by decide +kernel
theorem dX8_dawns_41 : decode cX8_dawns 41 = .ok (.iload_n 1, 1) := by decide +kernel
theorem dX8_dawns_42 : decode cX8_dawns 42 = .ok (.if_icmp .ge 13, 3) := by decide +kernel
theorem dX8_dawns_45 : decode cX8_dawns 45 = .ok (.aload_n 0, 1) := by decide +kernel
theorem dX8_dawns_46 : decode cX8_dawns 46 = .ok (.invokevirtual 199, 3) := by decide +kernel
theorem dX8_dawns_49 : decode cX8_dawns 49 = .ok (.iinc 2 1, 3) := by decide +kernel
theorem dX8_dawns_52 : decode cX8_dawns 52 = .ok (.goto (-12), 3) := by decide +kernel
theorem dX8_dawns_55 : decode cX8_dawns 55 = .ok (.aload_n 0, 1) := by decide +kernel
theorem dX8_dawns_56 : decode cX8_dawns 56 = .ok (.getfield 9, 3) := by decide +kernel
theorem dX8_dawns_59 : decode cX8_dawns 59 = .ok (.iconst 0, 1) := by decide +kernel
theorem dX8_dawns_60 : decode cX8_dawns 60 = .ok (.iaload, 1) := by decide +kernel
theorem dX8_dawns_61 : decode cX8_dawns 61 = .ok (.ireturn, 1) := by decide +kernel
theorem dX8_draw_0 : decode cX8_draw 0 = .ok (.aload_n 0, 1) := by decide +kernel
theorem dX8_draw_1 : decode cX8_draw 1 = .ok (.getfield 9, 3) := by decide +kernel
theorem dX8_draw_4 : decode cX8_draw 4 = .ok (.iconst 1, 1) := by decide +kernel
theorem dX8_draw_5 : decode cX8_draw 5 = .ok (.aload_n 0, 1) := by decide +kernel
theorem dX8_draw_6 : decode cX8_draw 6 = .ok (.getfield 9, 3) := by decide +kernel
theorem dX8_draw_9 : decode cX8_draw 9 = .ok (.iconst 1, 1) := by decide +kernel
theorem dX8_draw_10 : decode cX8_draw 10 = .ok (.iaload, 1) := by decide +kernel
theorem dX8_draw_11 : decode cX8_draw 11 = .ok (.ldc 202, 2) := by decide +kernel
theorem dX8_draw_13 : decode cX8_draw 13 = .ok (.imul, 1) := by decide +kernel
theorem dX8_draw_14 : decode cX8_draw 14 = .ok (.sipush 12345, 3) := by decide +kernel
theorem dX8_draw_17 : decode cX8_draw 17 = .ok (.iadd, 1) := by decide +kernel
theorem dX8_draw_18 : decode cX8_draw 18 = .ok (.iastore, 1) := by decide +kernel
theorem dX8_draw_19 : decode cX8_draw 19 = .ok (.aload_n 0, 1) := by decide +kernel
theorem dX8_draw_20 : decode cX8_draw 20 = .ok (.getfield 9, 3) := by decide +kernel
theorem dX8_draw_23 : decode cX8_draw 23 = .ok (.iconst 1, 1) := by decide +kernel
theorem dX8_draw_24 : decode cX8_draw 24 = .ok (.iaload, 1) := by decide +kernel
theorem dX8_draw_25 : decode cX8_draw 25 = .ok (.bipush 8, 2) := by decide +kernel
theorem dX8_draw_27 : decode cX8_draw 27 = .ok (.iushr, 1) := by decide +kernel
theorem dX8_draw_28 : decode cX8_draw 28 = .ok (.ireturn, 1) := by decide +kernel
theorem dX8_drawn_0 : decode cX8_drawn 0 = .ok (.bipush 70, 2) := by decide +kernel
theorem dX8_drawn_2 : decode cX8_drawn 2 = .ok (.aload_n 0, 1) := by decide +kernel
theorem dX8_drawn_3 : decode cX8_drawn 3 = .ok (.invokevirtual 203, 3) := by decide +kernel
theorem dX8_drawn_6 : decode cX8_drawn 6 = .ok (.bipush 64, 2) := by decide +kernel
theorem dX8_drawn_8 : decode cX8_drawn 8 = .ok (.irem, 1) := by decide +kernel
theorem dX8_drawn_9 : decode cX8_drawn 9 = .ok (.iadd, 1) := by decide +kernel
theorem dX8_drawn_10 : decode cX8_drawn 10 = .ok (.istore_n 1, 1) := by decide +kernel
theorem dX8_drawn_11 : decode cX8_drawn 11 = .ok (.aload_n 0, 1) := by decide +kernel
theorem dX8_drawn_12 : decode cX8_drawn 12 = .ok (.getfield 9, 3) := by decide +kernel
theorem dX8_drawn_15 : decode cX8_drawn 15 = .ok (.iload_n 1, 1) := by decide +kernel
theorem dX8_drawn_16 : decode cX8_drawn 16 = .ok (.iconst 1, 1) := by decide +kernel
theorem dX8_drawn_17 : decode cX8_drawn 17 = .ok (.aload_n 0, 1) := by decide +kernel
theorem dX8_drawn_18 : decode cX8_drawn 18 = .ok (.getfield 9, 3) := by decide +kernel
theorem dX8_drawn_21 : decode cX8_drawn 21 = .ok (.iload_n 1, 1) := by decide +kernel
theorem dX8_drawn_22 : decode cX8_drawn 22 = .ok (.iaload, 1) := by decide +kernel
theorem dX8_drawn_23 : decode cX8_drawn 23 = .ok (.isub, 1) := by decide +kernel
theorem dX8_drawn_24 : decode cX8_drawn 24 = .ok (.iastore, 1) := by decide +kernel
theorem dX8_drawn_25 : decode cX8_drawn 25 = .ok (.aload_n 0, 1) := by decide +kernel
theorem dX8_drawn_26 : decode cX8_drawn 26 = .ok (.getfield 9, 3) := by decide +kernel
theorem dX8_drawn_29 : decode cX8_drawn 29 = .ok (.iconst 3, 1) := by decide +kernel
theorem dX8_drawn_30 : decode cX8_drawn 30 = .ok (.iaload, 1) := by decide +kernel
theorem dX8_drawn_31 : decode cX8_drawn 31 = .ok (.ifCond .le 66, 3) := by decide +kernel
theorem dX8_drawn_34 : decode cX8_drawn 34 = .ok (.aload_n 0, 1) := by decide +kernel
theorem dX8_drawn_35 : decode cX8_drawn 35 = .ok (.invokevirtual 203, 3) := by decide +kernel
theorem dX8_drawn_38 : decode cX8_drawn 38 = .ok (.aload_n 0, 1) := by decide +kernel
theorem dX8_drawn_39 : decode cX8_drawn 39 = .ok (.getfield 9, 3) := by decide +kernel
theorem dX8_drawn_42 : decode cX8_drawn 42 = .ok (.iconst 3, 1) := by decide +kernel
theorem dX8_drawn_43 : decode cX8_drawn 43 = .ok (.iaload, 1) := by decide +kernel
theorem dX8_drawn_44 : decode cX8_drawn 44 = .ok (.irem, 1) := by decide +kernel
theorem dX8_drawn_45 : decode cX8_drawn 45 = .ok (.istore_n 2, 1) := by decide +kernel
theorem dX8_drawn_46 : decode cX8_drawn 46 = .ok (.aload_n 0, 1) := by decide +kernel
theorem dX8_drawn_47 : decode cX8_drawn 47 = .ok (.getfield 9, 3) := by decide +kernel
theorem dX8_drawn_50 : decode cX8_drawn 50 = .ok (.bipush 58, 2) := by decide +kernel
theorem dX8_drawn_52 : decode cX8_drawn 52 = .ok (.iconst 2, 1) := by decide +kernel
theorem dX8_drawn_53 : decode cX8_drawn 53 = .ok (.iload_n 2, 1) := by decide +kernel
theorem dX8_drawn_54 : decode cX8_drawn 54 = .ok (.imul, 1) := by decide +kernel
theorem dX8_drawn_55 : decode cX8_drawn 55 = .ok (.iadd, 1) := by decide +kernel
theorem dX8_drawn_56 : decode cX8_drawn 56 = .ok (.iaload, 1) := by decide +kernel
theorem dX8_drawn_57 : decode cX8_drawn 57 = .ok (.aload_n 0, 1) := by decide +kernel
theorem dX8_drawn_58 : decode cX8_drawn 58 = .ok (.invokevirtual 203, 3) := by decide +kernel
theorem dX8_drawn_61 : decode cX8_drawn 61 = .ok (.iconst 4, 1) := by decide +kernel
theorem dX8_drawn_62 : decode cX8_drawn 62 = .ok (.irem, 1) := by decide +kernel
theorem dX8_drawn_63 : decode cX8_drawn 63 = .ok (.invokestatic 62, 3) := by decide +kernel
theorem dX8_drawn_66 : decode cX8_drawn 66 = .ok (.istore_n 3, 1) := by decide +kernel
theorem dX8_drawn_67 : decode cX8_drawn 67 = .ok (.aload_n 0, 1) := by decide +kernel
theorem dX8_drawn_68 : decode cX8_drawn 68 = .ok (.getfield 9, 3) := by decide +kernel
theorem dX8_drawn_71 : decode cX8_drawn 71 = .ok (.bipush 58, 2) := by decide +kernel
theorem dX8_drawn_73 : decode cX8_drawn 73 = .ok (.iconst 2, 1) := by decide +kernel
theorem dX8_drawn_74 : decode cX8_drawn 74 = .ok (.iload_n 2, 1) := by decide +kernel
theorem dX8_drawn_75 : decode cX8_drawn 75 = .ok (.imul, 1) := by decide +kernel
theorem dX8_drawn_76 : decode cX8_drawn 76 = .ok (.iadd, 1) := by decide +kernel
theorem dX8_drawn_77 : decode cX8_drawn 77 = .ok (.iload_n 3, 1) := by decide +kernel
theorem dX8_drawn_78 : decode cX8_drawn 78 = .ok (.ifCond .ge 17, 3) := by decide +kernel
theorem dX8_drawn_81 : decode cX8_drawn 81 = .ok (.aload_n 0, 1) := by decide +kernel
theorem dX8_drawn_82 : decode cX8_drawn 82 = .ok (.getfield 9, 3) := by decide +kernel
theorem dX8_drawn_85 : decode cX8_drawn 85 = .ok (.bipush 58, 2) := by decide +kernel
theorem dX8_drawn_87 : decode cX8_drawn 87 = .ok (.iconst 2, 1) := by decide +kernel
theorem dX8_drawn_88 : decode cX8_drawn 88 = .ok (.iload_n 2, 1) := by decide +kernel
theorem dX8_drawn_89 : decode cX8_drawn 89 = .ok (.imul, 1) := by decide +kernel
theorem dX8_drawn_90 : decode cX8_drawn 90 = .ok (.iadd, 1) := by decide +kernel
theorem dX8_drawn_91 : decode cX8_drawn 91 = .ok (.iaload, 1) := by decide +kernel
theorem dX8_drawn_92 : decode cX8_drawn 92 = .ok (.goto 4, 3) := by decide +kernel
theorem dX8_drawn_95 : decode cX8_drawn 95 = .ok (.iload_n 3, 1) := by decide +kernel
theorem dX8_drawn_96 : decode cX8_drawn 96 = .ok (.iastore, 1) := by decide +kernel
theorem dX8_drawn_97 : decode cX8_drawn 97 = .ok (.aload_n 0, 1) := by decide +kernel
theorem dX8_drawn_98 : decode cX8_drawn 98 = .ok (.invokevirtual 199, 3) := by decide +kernel
theorem dX8_drawn_101 : decode cX8_drawn 101 = .ok (.return_, 1) := by decide +kernel
theorem dX8_countOf_0 : decode cX8_countOf 0 = .ok (.iconst 0, 1) := by decide +kernel
theorem dX8_countOf_1 : decode cX8_countOf 1 = .ok (.istore_n 2, 1) := by decide +kernel
theorem dX8_countOf_2 : decode cX8_countOf 2 = .ok (.iconst 0, 1) := by decide +kernel
theorem dX8_countOf_3 : decode cX8_countOf 3 = .ok (.istore_n 3, 1) := by decide +kernel
theorem dX8_countOf_4 : decode cX8_countOf 4 = .ok (.iload_n 3, 1) := by decide +kernel
theorem dX8_countOf_5 : decode cX8_countOf 5 = .ok (.bipush 64, 2) := by decide +kernel
theorem dX8_countOf_7 : decode cX8_countOf 7 = .ok (.if_icmp .ge 20, 3) := by decide +kernel
theorem dX8_countOf_10 : decode cX8_countOf 10 = .ok (.iload_n 2, 1) := by decide +kernel
theorem dX8_countOf_11 : decode cX8_countOf 11 = .ok (.aload_n 0, 1) := by decide +kernel
theorem dX8_countOf_12 : decode cX8_countOf 12 = .ok (.getfield 9, 3) := by decide +kernel
theorem dX8_countOf_15 : decode cX8_countOf 15 = .ok (.iload_n 1, 1) := by decide +kernel
theorem dX8_countOf_16 : decode cX8_countOf 16 = .ok (.iload_n 3, 1) := by decide +kernel
theorem dX8_countOf_17 : decode cX8_countOf 17 = .ok (.iadd, 1) := by decide +kernel
theorem dX8_countOf_18 : decode cX8_countOf 18 = .ok (.iaload, 1) := by decide +kernel
theorem dX8_countOf_19 : decode cX8_countOf 19 = .ok (.iadd, 1) := by decide +kernel
theorem dX8_countOf_20 : decode cX8_countOf 20 = .ok (.istore_n 2, 1) := by decide +kernel
theorem dX8_countOf_21 : decode cX8_countOf 21 = .ok (.iinc 3 1, 3) := by decide +kernel
theorem dX8_countOf_24 : decode cX8_countOf 24 = .ok (.goto (-20), 3) := by decide +kernel
theorem dX8_countOf_27 : decode cX8_countOf 27 = .ok (.iload_n 2, 1) := by decide +kernel
theorem dX8_countOf_28 : decode cX8_countOf 28 = .ok (.ireturn, 1) := by decide +kernel
theorem dX8_loose_0 : decode cX8_loose 0 = .ok (.iload_n 1, 1) := by decide +kernel
theorem dX8_loose_1 : decode cX8_loose 1 = .ok (.iconst 1, 1) := by decide +kernel
theorem dX8_loose_2 : decode cX8_loose 2 = .ok (.bipush 20, 2) := by decide +kernel
theorem dX8_loose_4 : decode cX8_loose 4 = .ok (.invokestatic 51, 3) := by decide +kernel
theorem dX8_loose_7 : decode cX8_loose 7 = .ok (.ifCond .ne 10, 3) := by decide +kernel
theorem dX8_loose_10 : decode cX8_loose 10 = .ok (.aload_n 0, 1) := by decide +kernel
theorem dX8_loose_11 : decode cX8_loose 11 = .ok (.ldc 100, 2) := by decide +kernel
theorem dX8_loose_13 : decode cX8_loose 13 = .ok (.invokevirtual 101, 3) := by decide +kernel
theorem dX8_loose_16 : decode cX8_loose 16 = .ok (.ireturn, 1) := by decide +kernel
theorem dX8_loose_17 : decode cX8_loose 17 = .ok (.aload_n 0, 1) := by decide +kernel
theorem dX8_loose_18 : decode cX8_loose 18 = .ok (.getfield 9, 3) := by decide +kernel
theorem dX8_loose_21 : decode cX8_loose 21 = .ok (.iconst 0, 1) := by decide +kernel
theorem dX8_loose_22 : decode cX8_loose 22 = .ok (.iaload, 1) := by decide +kernel
theorem dX8_loose_23 : decode cX8_loose 23 = .ok (.iload_n 1, 1) := by decide +kernel
theorem dX8_loose_24 : decode cX8_loose 24 = .ok (.iadd, 1) := by decide +kernel
theorem dX8_loose_25 : decode cX8_loose 25 = .ok (.sipush 9999, 3) := by decide +kernel
theorem dX8_loose_28 : decode cX8_loose 28 = .ok (.if_icmp .le 10, 3) := by decide +kernel
theorem dX8_loose_31 : decode cX8_loose 31 = .ok (.aload_n 0, 1) := by decide +kernel
theorem dX8_loose_32 : decode cX8_loose 32 = .ok (.ldc 123, 2) := by decide +kernel
theorem dX8_loose_34 : decode cX8_loose 34 = .ok (.invokevirtual 101, 3) := by decide +kernel
theorem dX8_loose_37 : decode cX8_loose 37 = .ok (.ireturn, 1) := by decide +kernel
theorem dX8_loose_38 : decode cX8_loose 38 = .ok (.iconst 0, 1) := by decide +kernel
theorem dX8_loose_39 : decode cX8_loose 39 = .ok (.istore_n 2, 1) := by decide +kernel
theorem dX8_loose_40 : decode cX8_loose 40 = .ok (.iload_n 2, 1) := by decide +kernel
theorem dX8_loose_41 : decode cX8_loose 41 = .ok (.iload_n 1, 1) := by decide +kernel
theorem dX8_loose_42 : decode cX8_loose 42 = .ok (.if_icmp .ge 13, 3) := by decide +kernel
theorem dX8_loose_45 : decode cX8_loose 45 = .ok (.aload_n 0, 1) := by decide +kernel
theorem dX8_loose_46 : decode cX8_loose 46 = .ok (.invokevirtual 206, 3) := by decide +kernel
theorem dX8_loose_49 : decode cX8_loose 49 = .ok (.iinc 2 1, 3) := by decide +kernel
theorem dX8_loose_52 : decode cX8_loose 52 = .ok (.goto (-12), 3) := by decide +kernel
theorem dX8_loose_55 : decode cX8_loose 55 = .ok (.aload_n 0, 1) := by decide +kernel
theorem dX8_loose_56 : decode cX8_loose 56 = .ok (.bipush 70, 2) := by decide +kernel
theorem dX8_loose_58 : decode cX8_loose 58 = .ok (.invokevirtual 209, 3) := by decide +kernel
theorem dX8_loose_61 : decode cX8_loose 61 = .ok (.ireturn, 1) := by decide +kernel
theorem dX8_seed_0 : decode cX8_seed 0 = .ok (.aload_n 0, 1) := by decide +kernel
theorem dX8_seed_1 : decode cX8_seed 1 = .ok (.iconst 1, 1) := by decide +kernel
theorem dX8_seed_2 : decode cX8_seed 2 = .ok (.iload_n 1, 1) := by decide +kernel
theorem dX8_seed_3 : decode cX8_seed 3 = .ok (.invokevirtual 119, 3) := by decide +kernel
theorem dX8_seed_6 : decode cX8_seed 6 = .ok (.ireturn, 1) := by decide +kernel
theorem dX8_land_0 : decode cX8_land 0 = .ok (.aload_n 0, 1) := by decide +kernel
theorem dX8_land_1 : decode cX8_land 1 = .ok (.iload_n 1, 1) := by decide +kernel
theorem dX8_land_2 : decode cX8_land 2 = .ok (.invokevirtual 106, 3) := by decide +kernel
theorem dX8_land_5 : decode cX8_land 5 = .ok (.ifCond .eq 12, 3) := by decide +kernel
theorem dX8_land_8 : decode cX8_land 8 = .ok (.iload_n 2, 1) := by decide +kernel
theorem dX8_land_9 : decode cX8_land 9 = .ok (.iconst 0, 1) := by decide +kernel
theorem dX8_land_10 : decode cX8_land 10 = .ok (.iconst 1, 1) := by decide +kernel
theorem dX8_land_11 : decode cX8_land 11 = .ok (.invokestatic 51, 3) := by decide +kernel
theorem dX8_land_14 : decode cX8_land 14 = .ok (.ifCond .ne 11, 3) := by decide +kernel
theorem dX8_land_17 : decode cX8_land 17 = .ok (.aload_n 0, 1) := by decide +kernel
theorem dX8_land_18 : decode cX8_land 18 = .ok (.ldc 100, 2) := by decide +kernel
theorem dX8_land_20 : decode cX8_land 20 = .ok (.invokevirtual 101, 3) := by decide +kernel
theorem dX8_land_23 : decode cX8_land 23 = .ok (.i2l, 1) := by decide +kernel
theorem dX8_land_24 : decode cX8_land 24 = .ok (.lreturn, 1) := by decide +kernel
theorem dX8_land_25 : decode cX8_land 25 = .ok (.iload_n 2, 1) := by decide +kernel
theorem dX8_land_26 : decode cX8_land 26 = .ok (.ifCond .ne 11, 3) := by decide +kernel
theorem dX8_land_29 : decode cX8_land 29 = .ok (.aload_n 0, 1) := by decide +kernel
theorem dX8_land_30 : decode cX8_land 30 = .ok (.iload_n 1, 1) := by decide +kernel
theorem dX8_land_31 : decode cX8_land 31 = .ok (.invokevirtual 73, 3) := by decide +kernel
theorem dX8_land_34 : decode cX8_land 34 = .ok (.goto 8, 3) := by decide +kernel
theorem dX8_land_37 : decode cX8_land 37 = .ok (.aload_n 0, 1) := by decide +kernel
theorem dX8_land_38 : decode cX8_land 38 = .ok (.iload_n 1, 1) := by decide +kernel
theorem dX8_land_39 : decode cX8_land 39 = .ok (.invokevirtual 85, 3) := by decide +kernel
theorem dX8_land_42 : decode cX8_land 42 = .ok (.lreturn, 1) := by decide +kernel
theorem dX8_then_0 : decode cX8_then 0 = .ok (.aload_n 0, 1) := by decide +kernel
theorem dX8_then_1 : decode cX8_then 1 = .ok (.iload_n 1, 1) := by decide +kernel
theorem dX8_then_2 : decode cX8_then 2 = .ok (.invokevirtual 106, 3) := by decide +kernel
theorem dX8_then_5 : decode cX8_then 5 = .ok (.ifCond .eq 22, 3) := by decide +kernel
theorem dX8_then_8 : decode cX8_then 8 = .ok (.iload_n 2, 1) := by decide +kernel
theorem dX8_then_9 : decode cX8_then 9 = .ok (.iconst 0, 1) := by decide +kernel
theorem dX8_then_10 : decode cX8_then 10 = .ok (.bipush 60, 2) := by decide +kernel
theorem dX8_then_12 : decode cX8_then 12 = .ok (.invokestatic 51, 3) := by decide +kernel
theorem dX8_then_15 : decode cX8_then 15 = .ok (.ifCond .eq 12, 3) := by decide +kernel
theorem dX8_then_18 : decode cX8_then 18 = .ok (.iload_n 3, 1) := by decide +kernel
theorem dX8_then_19 : decode cX8_then 19 = .ok (.iconst 0, 1) := by decide +kernel
theorem dX8_then_20 : decode cX8_then 20 = .ok (.iconst 1, 1) := by decide +kernel
theorem dX8_then_21 : decode cX8_then 21 = .ok (.invokestatic 51, 3) := by decide +kernel
theorem dX8_then_24 : decode cX8_then 24 = .ok (.ifCond .ne 10, 3) := by decide +kernel
theorem dX8_then_27 : decode cX8_then 27 = .ok (.aload_n 0, 1) := by decide +kernel
theorem dX8_then_28 : decode cX8_then 28 = .ok (.ldc 100, 2) := by decide +kernel
theorem dX8_then_30 : decode cX8_then 30 = .ok (.invokevirtual 101, 3) := by decide +kernel
theorem dX8_then_33 : decode cX8_then 33 = .ok (.ireturn, 1) := by decide +kernel
theorem dX8_then_34 : decode cX8_then 34 = .ok (.aload_n 0, 1) := by decide +kernel
theorem dX8_then_35 : decode cX8_then 35 = .ok (.invokevirtual 212, 3) := by decide +kernel
theorem dX8_then_38 : decode cX8_then 38 = .ok (.iconst 0, 1) := by decide +kernel
theorem dX8_then_39 : decode cX8_then 39 = .ok (.istore 4, 2) := by decide +kernel
theorem dX8_then_41 : decode cX8_then 41 = .ok (.iload 4, 2) := by decide +kernel
theorem dX8_then_43 : decode cX8_then 43 = .ok (.iload_n 2, 1) := by decide +kernel
theorem dX8_then_44 : decode cX8_then 44 = .ok (.if_icmp .ge 13, 3) := by decide +kernel
theorem dX8_then_47 : decode cX8_then 47 = .ok (.aload_n 0, 1) := by decide +kernel
theorem dX8_then_48 : decode cX8_then 48 = .ok (.invokevirtual 199, 3) := by decide +kernel
theorem dX8_then_51 : decode cX8_then 51 = .ok (.iinc 4 1, 3) := by decide +kernel
theorem dX8_then_54 : decode cX8_then 54 = .ok (.goto (-13), 3) := by decide +kernel
theorem dX8_then_57 : decode cX8_then 57 = .ok (.iload_n 3, 1) := by decide +kernel
theorem dX8_then_58 : decode cX8_then 58 = .ok (.ifCond .ne 14, 3) := by decide +kernel
theorem dX8_then_61 : decode cX8_then 61 = .ok (.aload_n 0, 1) := by decide +kernel
theorem dX8_then_62 : decode cX8_then 62 = .ok (.iload_n 1, 1) := by decide +kernel
theorem dX8_then_63 : decode cX8_then 63 = .ok (.invokevirtual 85, 3) := by decide +kernel
theorem dX8_then_66 : decode cX8_then 66 = .ok (.invokestatic 88, 3) := by decide +kernel
theorem dX8_then_69 : decode cX8_then 69 = .ok (.goto 9, 3) := by decide +kernel
theorem dX8_then_72 : decode cX8_then 72 = .ok (.aload_n 0, 1) := by decide +kernel
theorem dX8_then_73 : decode cX8_then 73 = .ok (.iload_n 1, 1) := by decide +kernel
theorem dX8_then_74 : decode cX8_then 74 = .ok (.iconst 4, 1) := by decide +kernel
theorem dX8_then_75 : decode cX8_then 75 = .ok (.invokevirtual 55, 3) := by decide +kernel
theorem dX8_then_78 : decode cX8_then 78 = .ok (.istore 4, 2) := by decide +kernel
theorem dX8_then_80 : decode cX8_then 80 = .ok (.aload_n 0, 1) := by decide +kernel
theorem dX8_then_81 : decode cX8_then 81 = .ok (.invokevirtual 215, 3) := by decide +kernel
theorem dX8_then_84 : decode cX8_then 84 = .ok (.iload 4, 2) := by decide +kernel
theorem dX8_then_86 : decode cX8_then 86 = .ok (.ireturn, 1) := by decide +kernel
theorem dX8_first_0 : decode cX8_first 0 = .ok (.iload_n 1, 1) := by decide +kernel
theorem dX8_first_1 : decode cX8_first 1 = .ok (.invokestatic 109, 3) := by decide +kernel
theorem dX8_first_4 : decode cX8_first 4 = .ok (.ifCond .eq 12, 3) := by decide +kernel
theorem dX8_first_7 : decode cX8_first 7 = .ok (.iload_n 2, 1) := by decide +kernel
theorem dX8_first_8 : decode cX8_first 8 = .ok (.iconst 0, 1) := by decide +kernel
theorem dX8_first_9 : decode cX8_first 9 = .ok (.iconst 1, 1) := by decide +kernel
theorem dX8_first_10 : decode cX8_first 10 = .ok (.invokestatic 51, 3) := by decide +kernel
theorem dX8_first_13 : decode cX8_first 13 = .ok (.ifCond .ne 10, 3) := by decide +kernel
theorem dX8_first_16 : decode cX8_first 16 = .ok (.aload_n 0, 1) := by decide +kernel
theorem dX8_first_17 : decode cX8_first 17 = .ok (.ldc 100, 2) := by decide +kernel
theorem dX8_first_19 : decode cX8_first 19 = .ok (.invokevirtual 101, 3) := by decide +kernel
theorem dX8_first_22 : decode cX8_first 22 = .ok (.ireturn, 1) := by decide +kernel
theorem dX8_first_23 : decode cX8_first 23 = .ok (.aload_n 0, 1) := by decide +kernel
theorem dX8_first_24 : decode cX8_first 24 = .ok (.invokevirtual 212, 3) := by decide +kernel
theorem dX8_first_27 : decode cX8_first 27 = .ok (.iconst 0, 1) := by decide +kernel
theorem dX8_first_28 : decode cX8_first 28 = .ok (.istore_n 3, 1) := by decide +kernel
theorem dX8_first_29 : decode cX8_first 29 = .ok (.iload_n 3, 1) := by decide +kernel
theorem dX8_first_30 : decode cX8_first 30 = .ok (.bipush 60, 2) := by decide +kernel
theorem dX8_first_32 : decode cX8_first 32 = .ok (.if_icmp .gt 21, 3) := by decide +kernel
theorem dX8_first_35 : decode cX8_first 35 = .ok (.aload_n 0, 1) := by decide +kernel
theorem dX8_first_36 : decode cX8_first 36 = .ok (.iload_n 1, 1) := by decide +kernel
theorem dX8_first_37 : decode cX8_first 37 = .ok (.invokevirtual 127, 3) := by decide +kernel
theorem dX8_first_40 : decode cX8_first 40 = .ok (.ifCond .ge 13, 3) := by decide +kernel
theorem dX8_first_43 : decode cX8_first 43 = .ok (.aload_n 0, 1) := by decide +kernel
theorem dX8_first_44 : decode cX8_first 44 = .ok (.invokevirtual 195, 3) := by decide +kernel
theorem dX8_first_47 : decode cX8_first 47 = .ok (.iinc 3 1, 3) := by decide +kernel
theorem dX8_first_50 : decode cX8_first 50 = .ok (.goto (-21), 3) := by decide +kernel
theorem dX8_first_53 : decode cX8_first 53 = .ok (.aload_n 0, 1) := by decide +kernel
theorem dX8_first_54 : decode cX8_first 54 = .ok (.iload_n 1, 1) := by decide +kernel
theorem dX8_first_55 : decode cX8_first 55 = .ok (.invokevirtual 127, 3) := by decide +kernel
theorem dX8_first_58 : decode cX8_first 58 = .ok (.istore 4, 2) := by decide +kernel
theorem dX8_first_60 : decode cX8_first 60 = .ok (.aload_n 0, 1) := by decide +kernel
theorem dX8_first_61 : decode cX8_first 61 = .ok (.invokevirtual 215, 3) := by decide +kernel
theorem dX8_first_64 : decode cX8_first 64 = .ok (.iload_n 3, 1) := by decide +kernel
theorem dX8_first_65 : decode cX8_first 65 = .ok (.bipush 60, 2) := by decide +kernel
theorem dX8_first_67 : decode cX8_first 67 = .ok (.if_icmp .le 12, 3) := by decide +kernel
theorem dX8_first_70 : decode cX8_first 70 = .ok (.aload_n 0, 1) := by decide +kernel
theorem dX8_first_71 : decode cX8_first 71 = .ok (.ldc 218, 2) := by decide +kernel
theorem dX8_first_73 : decode cX8_first 73 = .ok (.invokevirtual 101, 3) := by decide +kernel
theorem dX8_first_76 : decode cX8_first 76 = .ok (.goto 13, 3) := by decide +kernel
theorem dX8_first_79 : decode cX8_first 79 = .ok (.iload_n 2, 1) := by decide +kernel
theorem dX8_first_80 : decode cX8_first 80 = .ok (.ifCond .ne 7, 3) := by decide +kernel
theorem dX8_first_83 : decode cX8_first 83 = .ok (.iload_n 3, 1) := by decide +kernel
theorem dX8_first_84 : decode cX8_first 84 = .ok (.goto 5, 3) := by decide +kernel
theorem dX8_first_87 : decode cX8_first 87 = .ok (.iload 4, 2) := by decide +kernel
theorem dX8_first_89 : decode cX8_first 89 = .ok (.ireturn, 1) := by decide +kernel
theorem dX8_isHad_0 : decode cX8_isHad 0 = .ok (.iload 4, 2) := by decide +kernel
theorem dX8_isHad_2 : decode cX8_isHad 2 = .ok (.ifCond .lt 14, 3) := by decide +kernel
theorem dX8_isHad_5 : decode cX8_isHad 5 = .ok (.aload_n 0, 1) := by decide +kernel
theorem dX8_isHad_6 : decode cX8_isHad 6 = .ok (.getfield 9, 3) := by decide +kernel
theorem dX8_isHad_9 : decode cX8_isHad 9 = .ok (.bipush 70, 2) := by decide +kernel
theorem dX8_isHad_11 : decode cX8_isHad 11 = .ok (.iload 4, 2) := by decide +kernel
theorem dX8_isHad_13 : decode cX8_isHad 13 = .ok (.iadd, 1) := by decide +kernel
theorem dX8_isHad_14 : decode cX8_isHad 14 = .ok (.iconst 1, 1) := by decide +kernel
theorem dX8_isHad_15 : decode cX8_isHad 15 = .ok (.iastore, 1) := by decide +kernel
theorem dX8_isHad_16 : decode cX8_isHad 16 = .ok (.iload 5, 2) := by decide +kernel
theorem dX8_isHad_18 : decode cX8_isHad 18 = .ok (.ifCond .lt 14, 3) := by decide +kernel
theorem dX8_isHad_21 : decode cX8_isHad 21 = .ok (.aload_n 0, 1) := by decide +kernel
theorem dX8_isHad_22 : decode cX8_isHad 22 = .ok (.getfield 9, 3) := by decide +kernel
theorem dX8_isHad_25 : decode cX8_isHad 25 = .ok (.bipush 70, 2) := by decide +kernel
theorem dX8_isHad_27 : decode cX8_isHad 27 = .ok (.iload 5, 2) := by decide +kernel
theorem dX8_isHad_29 : decode cX8_isHad 29 = .ok (.iadd, 1) := by decide +kernel
theorem dX8_isHad_30 : decode cX8_isHad 30 = .ok (.iconst 1, 1) := by decide +kernel
theorem dX8_isHad_31 : decode cX8_isHad 31 = .ok (.iastore, 1) := by decide +kernel
theorem dX8_isHad_32 : decode cX8_isHad 32 = .ok (.iconst 0, 1) := by decide +kernel
theorem dX8_isHad_33 : decode cX8_isHad 33 = .ok (.istore 6, 2) := by decide +kernel
theorem dX8_isHad_35 : decode cX8_isHad 35 = .ok (.iload 6, 2) := by decide +kernel
theorem dX8_isHad_37 : decode cX8_isHad 37 = .ok (.iload_n 3, 1) := by decide +kernel
theorem dX8_isHad_38 : decode cX8_isHad 38 = .ok (.if_icmp .ge 13, 3) := by decide +kernel
theorem dX8_isHad_41 : decode cX8_isHad 41 = .ok (.aload_n 0, 1) := by decide +kernel
theorem dX8_isHad_42 : decode cX8_isHad 42 = .ok (.invokevirtual 195, 3) := by decide +kernel
theorem dX8_isHad_45 : decode cX8_isHad 45 = .ok (.iinc 6 1, 3) := by decide +kernel
theorem dX8_isHad_48 : decode cX8_isHad 48 = .ok (.goto (-13), 3) := by decide +kernel
theorem dX8_isHad_51 : decode cX8_isHad 51 = .ok (.aload_n 0, 1) := by decide +kernel
theorem dX8_isHad_52 : decode cX8_isHad 52 = .ok (.iload_n 1, 1) := by decide +kernel
theorem dX8_isHad_53 : decode cX8_isHad 53 = .ok (.invokevirtual 85, 3) := by decide +kernel
theorem dX8_isHad_56 : decode cX8_isHad 56 = .ok (.iload_n 2, 1) := by decide +kernel
theorem dX8_isHad_57 : decode cX8_isHad 57 = .ok (.lushr, 1) := by decide +kernel
theorem dX8_isHad_58 : decode cX8_isHad 58 = .ok (.lconst 1, 1) := by decide +kernel
theorem dX8_isHad_59 : decode cX8_isHad 59 = .ok (.land, 1) := by decide +kernel
theorem dX8_isHad_60 : decode cX8_isHad 60 = .ok (.lconst 1, 1) := by decide +kernel
theorem dX8_isHad_61 : decode cX8_isHad 61 = .ok (.lcmp, 1) := by decide +kernel
theorem dX8_isHad_62 : decode cX8_isHad 62 = .ok (.ifCond .ne 7, 3) := by decide +kernel
theorem dX8_isHad_65 : decode cX8_isHad 65 = .ok (.iconst 1, 1) := by decide +kernel
theorem dX8_isHad_66 : decode cX8_isHad 66 = .ok (.goto 4, 3) := by decide +kernel
theorem dX8_isHad_69 : decode cX8_isHad 69 = .ok (.iconst 0, 1) := by decide +kernel
theorem dX8_isHad_70 : decode cX8_isHad 70 = .ok (.istore 6, 2) := by decide +kernel
theorem dX8_isHad_72 : decode cX8_isHad 72 = .ok (.aload_n 0, 1) := by decide +kernel
theorem dX8_isHad_73 : decode cX8_isHad 73 = .ok (.invokevirtual 215, 3) := by decide +kernel
theorem dX8_isHad_76 : decode cX8_isHad 76 = .ok (.iload 6, 2) := by decide +kernel
theorem dX8_isHad_78 : decode cX8_isHad 78 = .ok (.ireturn, 1) := by decide +kernel
theorem dX8_salts_0 : decode cX8_salts 0 = .ok (.aload_n 0, 1) := by decide +kernel
theorem dX8_salts_1 : decode cX8_salts 1 = .ok (.iload_n 1, 1) := by decide +kernel
theorem dX8_salts_2 : decode cX8_salts 2 = .ok (.invokevirtual 106, 3) := by decide +kernel
theorem dX8_salts_5 : decode cX8_salts 5 = .ok (.ifCond .eq 30, 3) := by decide +kernel
theorem dX8_salts_8 : decode cX8_salts 8 = .ok (.iload_n 2, 1) := by decide +kernel
theorem dX8_salts_9 : decode cX8_salts 9 = .ok (.invokestatic 109, 3) := by decide +kernel
theorem dX8_salts_12 : decode cX8_salts 12 = .ok (.ifCond .eq 23, 3) := by decide +kernel
theorem dX8_salts_15 : decode cX8_salts 15 = .ok (.iload_n 3, 1) := by decide +kernel
theorem dX8_salts_16 : decode cX8_salts 16 = .ok (.iconst 0, 1) := by decide +kernel
theorem dX8_salts_17 : decode cX8_salts 17 = .ok (.bipush 6, 2) := by decide +kernel
theorem dX8_salts_19 : decode cX8_salts 19 = .ok (.invokestatic 51, 3) := by decide +kernel
theorem dX8_salts_22 : decode cX8_salts 22 = .ok (.ifCond .eq 13, 3) := by decide +kernel
theorem dX8_salts_25 : decode cX8_salts 25 = .ok (.iload 4, 2) := by decide +kernel
theorem dX8_salts_27 : decode cX8_salts 27 = .ok (.iconst (-1), 1) := by decide +kernel
theorem dX8_salts_28 : decode cX8_salts 28 = .ok (.iconst 1, 1) := by decide +kernel
theorem dX8_salts_29 : decode cX8_salts 29 = .ok (.invokestatic 51, 3) := by decide +kernel
theorem dX8_salts_32 : decode cX8_salts 32 = .ok (.ifCond .ne 10, 3) := by decide +kernel
theorem dX8_salts_35 : decode cX8_salts 35 = .ok (.aload_n 0, 1) := by decide +kernel
theorem dX8_salts_36 : decode cX8_salts 36 = .ok (.ldc 100, 2) := by decide +kernel
theorem dX8_salts_38 : decode cX8_salts 38 = .ok (.invokevirtual 101, 3) := by decide +kernel
theorem dX8_salts_41 : decode cX8_salts 41 = .ok (.ireturn, 1) := by decide +kernel
theorem dX8_salts_42 : decode cX8_salts 42 = .ok (.aload_n 0, 1) := by decide +kernel
theorem dX8_salts_43 : decode cX8_salts 43 = .ok (.invokevirtual 212, 3) := by decide +kernel
theorem dX8_salts_46 : decode cX8_salts 46 = .ok (.aload_n 0, 1) := by decide +kernel
theorem dX8_salts_47 : decode cX8_salts 47 = .ok (.iload_n 1, 1) := by decide +kernel
theorem dX8_salts_48 : decode cX8_salts 48 = .ok (.iload_n 2, 1) := by decide +kernel
theorem dX8_salts_49 : decode cX8_salts 49 = .ok (.iload_n 3, 1) := by decide +kernel
theorem dX8_salts_50 : decode cX8_salts 50 = .ok (.iconst (-1), 1) := by decide +kernel
theorem dX8_salts_51 : decode cX8_salts 51 = .ok (.iconst (-1), 1) := by decide +kernel
theorem dX8_salts_52 : decode cX8_salts 52 = .ok (.invokevirtual 219, 3) := by decide +kernel
theorem dX8_salts_55 : decode cX8_salts 55 = .ok (.ifCond .eq 14, 3) := by decide +kernel
theorem dX8_salts_58 : decode cX8_salts 58 = .ok (.iload 4, 2) := by decide +kernel
theorem dX8_salts_60 : decode cX8_salts 60 = .ok (.ifCond .ge 7, 3) := by decide +kernel
theorem dX8_salts_63 : decode cX8_salts 63 = .ok (.iconst 0, 1) := by decide +kernel
theorem dX8_salts_64 : decode cX8_salts 64 = .ok (.goto 4, 3) := by decide +kernel
theorem dX8_salts_67 : decode cX8_salts 67 = .ok (.iconst (-1), 1) := by decide +kernel
theorem dX8_salts_68 : decode cX8_salts 68 = .ok (.ireturn, 1) := by decide +kernel
theorem dX8_salts_69 : decode cX8_salts 69 = .ok (.iconst 0, 1) := by decide +kernel
theorem dX8_salts_70 : decode cX8_salts 70 = .ok (.istore 5, 2) := by decide +kernel
theorem dX8_salts_72 : decode cX8_salts 72 = .ok (.iload 5, 2) := by decide +kernel
theorem dX8_salts_74 : decode cX8_salts 74 = .ok (.bipush 64, 2) := by decide +kernel
theorem dX8_salts_76 : decode cX8_salts 76 = .ok (.if_icmp .ge 43, 3) := by decide +kernel
theorem dX8_salts_79 : decode cX8_salts 79 = .ok (.aload_n 0, 1) := by decide +kernel
theorem dX8_salts_80 : decode cX8_salts 80 = .ok (.iload_n 1, 1) := by decide +kernel
theorem dX8_salts_81 : decode cX8_salts 81 = .ok (.iload_n 2, 1) := by decide +kernel
theorem dX8_salts_82 : decode cX8_salts 82 = .ok (.iload_n 3, 1) := by decide +kernel
theorem dX8_salts_83 : decode cX8_salts 83 = .ok (.iload 5, 2) := by decide +kernel
theorem dX8_salts_85 : decode cX8_salts 85 = .ok (.iconst (-1), 1) := by decide +kernel
theorem dX8_salts_86 : decode cX8_salts 86 = .ok (.invokevirtual 219, 3) := by decide +kernel
theorem dX8_salts_89 : decode cX8_salts 89 = .ok (.ifCond .eq 24, 3) := by decide +kernel
theorem dX8_salts_92 : decode cX8_salts 92 = .ok (.iload 4, 2) := by decide +kernel
theorem dX8_salts_94 : decode cX8_salts 94 = .ok (.ifCond .ge 7, 3) := by decide +kernel
theorem dX8_salts_97 : decode cX8_salts 97 = .ok (.iconst 1, 1) := by decide +kernel
theorem dX8_salts_98 : decode cX8_salts 98 = .ok (.goto 14, 3) := by decide +kernel
theorem dX8_salts_101 : decode cX8_salts 101 = .ok (.iload 4, 2) := by decide +kernel
theorem dX8_salts_103 : decode cX8_salts 103 = .ok (.ifCond .ne 8, 3) := by decide +kernel
theorem dX8_salts_106 : decode cX8_salts 106 = .ok (.iload 5, 2) := by decide +kernel
theorem dX8_salts_108 : decode cX8_salts 108 = .ok (.goto 4, 3) := by decide +kernel
theorem dX8_salts_111 : decode cX8_salts 111 = .ok (.iconst (-1), 1) := by decide +kernel
theorem dX8_salts_112 : decode cX8_salts 112 = .ok (.ireturn, 1) := by decide +kernel
theorem dX8_salts_113 : decode cX8_salts 113 = .ok (.iinc 5 1, 3) := by decide +kernel
theorem dX8_salts_116 : decode cX8_salts 116 = .ok (.goto (-44), 3) := by decide +kernel
theorem dX8_salts_119 : decode cX8_salts 119 = .ok (.iconst 0, 1) := by decide +kernel
theorem dX8_salts_120 : decode cX8_salts 120 = .ok (.istore 5, 2) := by decide +kernel
theorem dX8_salts_122 : decode cX8_salts 122 = .ok (.iload 5, 2) := by decide +kernel
theorem dX8_salts_124 : decode cX8_salts 124 = .ok (.bipush 64, 2) := by decide +kernel
theorem dX8_salts_126 : decode cX8_salts 126 = .ok (.if_icmp .ge 64, 3) := by decide +kernel
theorem dX8_salts_129 : decode cX8_salts 129 = .ok (.iload 5, 2) := by decide +kernel
theorem dX8_salts_131 : decode cX8_salts 131 = .ok (.iconst 1, 1) := by decide +kernel
theorem dX8_salts_132 : decode cX8_salts 132 = .ok (.iadd, 1) := by decide +kernel
theorem dX8_salts_133 : decode cX8_salts 133 = .ok (.istore 6, 2) := by decide +kernel
theorem dX8_salts_135 : decode cX8_salts 135 = .ok (.iload 6, 2) := by decide +kernel
theorem dX8_salts_137 : decode cX8_salts 137 = .ok (.bipush 64, 2) := by decide +kernel
theorem dX8_salts_139 : decode cX8_salts 139 = .ok (.if_icmp .ge 45, 3) := by decide +kernel
theorem dX8_salts_142 : decode cX8_salts 142 = .ok (.aload_n 0, 1) := by decide +kernel
theorem dX8_salts_143 : decode cX8_salts 143 = .ok (.iload_n 1, 1) := by decide +kernel
theorem dX8_salts_144 : decode cX8_salts 144 = .ok (.iload_n 2, 1) := by decide +kernel
theorem dX8_salts_145 : decode cX8_salts 145 = .ok (.iload_n 3, 1) := by decide +kernel
theorem dX8_salts_146 : decode cX8_salts 146 = .ok (.iload 5, 2) := by decide +kernel
theorem dX8_salts_148 : decode cX8_salts 148 = .ok (.iload 6, 2) := by decide +kernel
theorem dX8_salts_150 : decode cX8_salts 150 = .ok (.invokevirtual 219, 3) := by decide +kernel
theorem dX8_salts_153 : decode cX8_salts 153 = .ok (.ifCond .eq 25, 3) := by decide +kernel
theorem dX8_salts_156 : decode cX8_salts 156 = .ok (.iload 4, 2) := by decide +kernel
theorem dX8_salts_158 : decode cX8_salts 158 = .ok (.ifCond .ge 7, 3) := by decide +kernel
theorem dX8_salts_161 : decode cX8_salts 161 = .ok (.iconst 2, 1) := by decide +kernel
theorem dX8_salts_162 : decode cX8_salts 162 = .ok (.goto 15, 3) := by decide +kernel
theorem dX8_salts_165 : decode cX8_salts 165 = .ok (.iload 4, 2) := by decide +kernel
theorem dX8_salts_167 : decode cX8_salts 167 = .ok (.ifCond .ne 8, 3) := by decide +kernel
theorem dX8_salts_170 : decode cX8_salts 170 = .ok (.iload 5, 2) := by decide +kernel
theorem dX8_salts_172 : decode cX8_salts 172 = .ok (.goto 5, 3) := by decide +kernel
theorem dX8_salts_175 : decode cX8_salts 175 = .ok (.iload 6, 2) := by decide +kernel
theorem dX8_salts_177 : decode cX8_salts 177 = .ok (.ireturn, 1) := by decide +kernel
theorem dX8_salts_178 : decode cX8_salts 178 = .ok (.iinc 6 1, 3) := by decide +kernel
theorem dX8_salts_181 : decode cX8_salts 181 = .ok (.goto (-46), 3) := by decide +kernel
theorem dX8_salts_184 : decode cX8_salts 184 = .ok (.iinc 5 1, 3) := by decide +kernel
theorem dX8_salts_187 : decode cX8_salts 187 = .ok (.goto (-65), 3) := by decide +kernel
theorem dX8_salts_190 : decode cX8_salts 190 = .ok (.aload_n 0, 1) := by decide +kernel
theorem dX8_salts_191 : decode cX8_salts 191 = .ok (.ldc 218, 2) := by decide +kernel
theorem dX8_salts_193 : decode cX8_salts 193 = .ok (.invokevirtual 101, 3) := by decide +kernel
theorem dX8_salts_196 : decode cX8_salts 196 = .ok (.ireturn, 1) := by decide +kernel
theorem dX8_allPosts_0 : decode cX8_allPosts 0 = .ok (.lconst 0, 1) := by decide +kernel
theorem dX8_allPosts_1 : decode cX8_allPosts 1 = .ok (.lstore_n 1, 1) := by decide +kernel
theorem dX8_allPosts_2 : decode cX8_allPosts 2 = .ok (.iconst 0, 1) := by decide +kernel
theorem dX8_allPosts_3 : decode cX8_allPosts 3 = .ok (.istore_n 3, 1) := by decide +kernel
theorem dX8_allPosts_4 : decode cX8_allPosts 4 = .ok (.iload_n 3, 1) := by decide +kernel
theorem dX8_allPosts_5 : decode cX8_allPosts 5 = .ok (.aload_n 0, 1) := by decide +kernel
theorem dX8_allPosts_6 : decode cX8_allPosts 6 = .ok (.getfield 9, 3) := by decide +kernel
theorem dX8_allPosts_9 : decode cX8_allPosts 9 = .ok (.iconst 2, 1) := by decide +kernel
theorem dX8_allPosts_10 : decode cX8_allPosts 10 = .ok (.iaload, 1) := by decide +kernel
theorem dX8_allPosts_11 : decode cX8_allPosts 11 = .ok (.if_icmp .ge 17, 3) := by decide +kernel
theorem dX8_allPosts_14 : decode cX8_allPosts 14 = .ok (.lload_n 1, 1) := by decide +kernel
theorem dX8_allPosts_15 : decode cX8_allPosts 15 = .ok (.aload_n 0, 1) := by decide +kernel
theorem dX8_allPosts_16 : decode cX8_allPosts 16 = .ok (.iload_n 3, 1) := by decide +kernel
theorem dX8_allPosts_17 : decode cX8_allPosts 17 = .ok (.invokevirtual 73, 3) := by decide +kernel
theorem dX8_allPosts_20 : decode cX8_allPosts 20 = .ok (.lor, 1) := by decide +kernel
theorem dX8_allPosts_21 : decode cX8_allPosts 21 = .ok (.lstore_n 1, 1) := by decide +kernel
theorem dX8_allPosts_22 : decode cX8_allPosts 22 = .ok (.iinc 3 1, 3) := by decide +kernel
theorem dX8_allPosts_25 : decode cX8_allPosts 25 = .ok (.goto (-21), 3) := by decide +kernel
theorem dX8_allPosts_28 : decode cX8_allPosts 28 = .ok (.lload_n 1, 1) := by decide +kernel
theorem dX8_allPosts_29 : decode cX8_allPosts 29 = .ok (.lreturn, 1) := by decide +kernel
theorem dX8_way_0 : decode cX8_way 0 = .ok (.aload_n 0, 1) := by decide +kernel
theorem dX8_way_1 : decode cX8_way 1 = .ok (.iload_n 1, 1) := by decide +kernel
theorem dX8_way_2 : decode cX8_way 2 = .ok (.invokevirtual 124, 3) := by decide +kernel
theorem dX8_way_5 : decode cX8_way 5 = .ok (.ifCond .eq 10, 3) := by decide +kernel
theorem dX8_way_8 : decode cX8_way 8 = .ok (.iload_n 2, 1) := by decide +kernel
theorem dX8_way_9 : decode cX8_way 9 = .ok (.invokestatic 109, 3) := by decide +kernel
theorem dX8_way_12 : decode cX8_way 12 = .ok (.ifCond .ne 10, 3) := by decide +kernel
theorem dX8_way_15 : decode cX8_way 15 = .ok (.aload_n 0, 1) := by decide +kernel
theorem dX8_way_16 : decode cX8_way 16 = .ok (.ldc 100, 2) := by decide +kernel
theorem dX8_way_18 : decode cX8_way 18 = .ok (.invokevirtual 101, 3) := by decide +kernel
theorem dX8_way_21 : decode cX8_way 21 = .ok (.ireturn, 1) := by decide +kernel
theorem dX8_way_22 : decode cX8_way 22 = .ok (.aload_n 0, 1) := by decide +kernel
theorem dX8_way_23 : decode cX8_way 23 = .ok (.invokevirtual 212, 3) := by decide +kernel
theorem dX8_way_26 : decode cX8_way 26 = .ok (.lconst 1, 1) := by decide +kernel
theorem dX8_way_27 : decode cX8_way 27 = .ok (.aload_n 0, 1) := by decide +kernel
theorem dX8_way_28 : decode cX8_way 28 = .ok (.getfield 9, 3) := by decide +kernel
theorem dX8_way_31 : decode cX8_way 31 = .ok (.bipush 58, 2) := by decide +kernel
theorem dX8_way_33 : decode cX8_way 33 = .ok (.iconst 2, 1) := by decide +kernel
theorem dX8_way_34 : decode cX8_way 34 = .ok (.iload_n 1, 1) := by decide +kernel
theorem dX8_way_35 : decode cX8_way 35 = .ok (.imul, 1) := by decide +kernel
theorem dX8_way_36 : decode cX8_way 36 = .ok (.iadd, 1) := by decide +kernel
theorem dX8_way_37 : decode cX8_way 37 = .ok (.iaload, 1) := by decide +kernel
theorem dX8_way_38 : decode cX8_way 38 = .ok (.lshl, 1) := by decide +kernel
theorem dX8_way_39 : decode cX8_way 39 = .ok (.lstore_n 3, 1) := by decide +kernel
theorem dX8_way_40 : decode cX8_way 40 = .ok (.iconst 0, 1) := by decide +kernel
theorem dX8_way_41 : decode cX8_way 41 = .ok (.istore 5, 2) := by decide +kernel
theorem dX8_way_43 : decode cX8_way 43 = .ok (.iload 5, 2) := by decide +kernel
theorem dX8_way_45 : decode cX8_way 45 = .ok (.bipush 60, 2) := by decide +kernel
theorem dX8_way_47 : decode cX8_way 47 = .ok (.if_icmp .gt 39, 3) := by decide +kernel
theorem dX8_way_50 : decode cX8_way 50 = .ok (.lload_n 3, 1) := by decide +kernel
theorem dX8_way_51 : decode cX8_way 51 = .ok (.iload_n 2, 1) := by decide +kernel
theorem dX8_way_52 : decode cX8_way 52 = .ok (.lushr, 1) := by decide +kernel
theorem dX8_way_53 : decode cX8_way 53 = .ok (.lconst 1, 1) := by decide +kernel
theorem dX8_way_54 : decode cX8_way 54 = .ok (.land, 1) := by decide +kernel
theorem dX8_way_55 : decode cX8_way 55 = .ok (.lconst 0, 1) := by decide +kernel
theorem dX8_way_56 : decode cX8_way 56 = .ok (.lcmp, 1) := by decide +kernel
theorem dX8_way_57 : decode cX8_way 57 = .ok (.ifCond .ne 29, 3) := by decide +kernel
theorem dX8_way_60 : decode cX8_way 60 = .ok (.aload_n 0, 1) := by decide +kernel
theorem dX8_way_61 : decode cX8_way 61 = .ok (.invokevirtual 195, 3) := by decide +kernel
theorem dX8_way_64 : decode cX8_way 64 = .ok (.lload_n 3, 1) := by decide +kernel
theorem dX8_way_65 : decode cX8_way 65 = .ok (.lload_n 3, 1) := by decide +kernel
theorem dX8_way_66 : decode cX8_way 66 = .ok (.invokestatic 81, 3) := by decide +kernel
theorem dX8_way_69 : decode cX8_way 69 = .ok (.aload_n 0, 1) := by decide +kernel
theorem dX8_way_70 : decode cX8_way 70 = .ok (.invokevirtual 223, 3) := by decide +kernel
theorem dX8_way_73 : decode cX8_way 73 = .ok (.ldc2_w 77, 3) := by decide +kernel
theorem dX8_way_76 : decode cX8_way 76 = .ok (.lxor, 1) := by decide +kernel
theorem dX8_way_77 : decode cX8_way 77 = .ok (.land, 1) := by decide +kernel
theorem dX8_way_78 : decode cX8_way 78 = .ok (.lor, 1) := by decide +kernel
theorem dX8_way_79 : decode cX8_way 79 = .ok (.lstore_n 3, 1) := by decide +kernel
theorem dX8_way_80 : decode cX8_way 80 = .ok (.iinc 5 1, 3) := by decide +kernel
theorem dX8_way_83 : decode cX8_way 83 = .ok (.goto (-40), 3) := by decide +kernel
theorem dX8_way_86 : decode cX8_way 86 = .ok (.aload_n 0, 1) := by decide +kernel
theorem dX8_way_87 : decode cX8_way 87 = .ok (.invokevirtual 215, 3) := by decide +kernel
theorem dX8_way_90 : decode cX8_way 90 = .ok (.iload 5, 2) := by decide +kernel
theorem dX8_way_92 : decode cX8_way 92 = .ok (.bipush 60, 2) := by decide +kernel
theorem dX8_way_94 : decode cX8_way 94 = .ok (.if_icmp .le 12, 3) := by decide +kernel
theorem dX8_way_97 : decode cX8_way 97 = .ok (.aload_n 0, 1) := by decide +kernel
theorem dX8_way_98 : decode cX8_way 98 = .ok (.ldc 218, 2) := by decide +kernel
theorem dX8_way_100 : decode cX8_way 100 = .ok (.invokevirtual 101, 3) := by decide +kernel
theorem dX8_way_103 : decode cX8_way 103 = .ok (.goto 5, 3) := by decide +kernel
theorem dX8_way_106 : decode cX8_way 106 = .ok (.iload 5, 2) := by decide +kernel
theorem dX8_way_108 : decode cX8_way 108 = .ok (.ireturn, 1) := by decide +kernel
theorem dX8_odds_0 : decode cX8_odds 0 = .ok (.iload_n 1, 1) := by decide +kernel
theorem dX8_odds_1 : decode cX8_odds 1 = .ok (.iconst 0, 1) := by decide +kernel
theorem dX8_odds_2 : decode cX8_odds 2 = .ok (.iconst 1, 1) := by decide +kernel
theorem dX8_odds_3 : decode cX8_odds 3 = .ok (.invokestatic 51, 3) := by decide +kernel
theorem dX8_odds_6 : decode cX8_odds 6 = .ok (.ifCond .ne 10, 3) := by decide +kernel
theorem dX8_odds_9 : decode cX8_odds 9 = .ok (.aload_n 0, 1) := by decide +kernel
theorem dX8_odds_10 : decode cX8_odds 10 = .ok (.ldc 100, 2) := by decide +kernel
theorem dX8_odds_12 : decode cX8_odds 12 = .ok (.invokevirtual 101, 3) := by decide +kernel
theorem dX8_odds_15 : decode cX8_odds 15 = .ok (.ireturn, 1) := by decide +kernel
theorem dX8_odds_16 : decode cX8_odds 16 = .ok (.lconst 0, 1) := by decide +kernel
theorem dX8_odds_17 : decode cX8_odds 17 = .ok (.lstore_n 2, 1) := by decide +kernel
theorem dX8_odds_18 : decode cX8_odds 18 = .ok (.iconst 0, 1) := by decide +kernel
theorem dX8_odds_19 : decode cX8_odds 19 = .ok (.istore 4, 2) := by decide +kernel
theorem dX8_odds_21 : decode cX8_odds 21 = .ok (.iload 4, 2) := by decide +kernel
theorem dX8_odds_23 : decode cX8_odds 23 = .ok (.aload_n 0, 1) := by decide +kernel
theorem dX8_odds_24 : decode cX8_odds 24 = .ok (.getfield 9, 3) := by decide +kernel
theorem dX8_odds_27 : decode cX8_odds 27 = .ok (.iconst 2, 1) := by decide +kernel
theorem dX8_odds_28 : decode cX8_odds 28 = .ok (.iaload, 1) := by decide +kernel
theorem dX8_odds_29 : decode cX8_odds 29 = .ok (.if_icmp .ge 18, 3) := by decide +kernel
theorem dX8_odds_32 : decode cX8_odds 32 = .ok (.lload_n 2, 1) := by decide +kernel
theorem dX8_odds_33 : decode cX8_odds 33 = .ok (.aload_n 0, 1) := by decide +kernel
theorem dX8_odds_34 : decode cX8_odds 34 = .ok (.iload 4, 2) := by decide +kernel
theorem dX8_odds_36 : decode cX8_odds 36 = .ok (.invokevirtual 85, 3) := by decide +kernel
theorem dX8_odds_39 : decode cX8_odds 39 = .ok (.lor, 1) := by decide +kernel
theorem dX8_odds_40 : decode cX8_odds 40 = .ok (.lstore_n 2, 1) := by decide +kernel
theorem dX8_odds_41 : decode cX8_odds 41 = .ok (.iinc 4 1, 3) := by decide +kernel
theorem dX8_odds_44 : decode cX8_odds 44 = .ok (.goto (-23), 3) := by decide +kernel
theorem dX8_odds_47 : decode cX8_odds 47 = .ok (.lload_n 2, 1) := by decide +kernel
theorem dX8_odds_48 : decode cX8_odds 48 = .ok (.invokestatic 88, 3) := by decide +kernel
theorem dX8_odds_51 : decode cX8_odds 51 = .ok (.istore 4, 2) := by decide +kernel
theorem dX8_odds_53 : decode cX8_odds 53 = .ok (.bipush 64, 2) := by decide +kernel
theorem dX8_odds_55 : decode cX8_odds 55 = .ok (.istore 5, 2) := by decide +kernel
theorem dX8_odds_57 : decode cX8_odds 57 = .ok (.iload 4, 2) := by decide +kernel
theorem dX8_odds_59 : decode cX8_odds 59 = .ok (.iconst 2, 1) := by decide +kernel
theorem dX8_odds_60 : decode cX8_odds 60 = .ok (.irem, 1) := by decide +kernel
theorem dX8_odds_61 : decode cX8_odds 61 = .ok (.ifCond .ne 24, 3) := by decide +kernel
theorem dX8_odds_64 : decode cX8_odds 64 = .ok (.iload 5, 2) := by decide +kernel
theorem dX8_odds_66 : decode cX8_odds 66 = .ok (.iconst 1, 1) := by decide +kernel
theorem dX8_odds_67 : decode cX8_odds 67 = .ok (.if_icmp .le 18, 3) := by decide +kernel
theorem dX8_odds_70 : decode cX8_odds 70 = .ok (.iload 4, 2) := by decide +kernel
theorem dX8_odds_72 : decode cX8_odds 72 = .ok (.iconst 2, 1) := by decide +kernel
theorem dX8_odds_73 : decode cX8_odds 73 = .ok (.idiv, 1) := by decide +kernel
theorem dX8_odds_74 : decode cX8_odds 74 = .ok (.istore 4, 2) := by decide +kernel
theorem dX8_odds_76 : decode cX8_odds 76 = .ok (.iload 5, 2) := by decide +kernel
theorem dX8_odds_78 : decode cX8_odds 78 = .ok (.iconst 2, 1) := by decide +kernel
theorem dX8_odds_79 : decode cX8_odds 79 = .ok (.idiv, 1) := by decide +kernel
theorem dX8_odds_80 : decode cX8_odds 80 = .ok (.istore 5, 2) := by decide +kernel
theorem dX8_odds_82 : decode cX8_odds 82 = .ok (.goto (-25), 3) := by decide +kernel
theorem dX8_odds_85 : decode cX8_odds 85 = .ok (.iload_n 1, 1) := by decide +kernel
theorem dX8_odds_86 : decode cX8_odds 86 = .ok (.ifCond .ne 8, 3) := by decide +kernel
theorem dX8_odds_89 : decode cX8_odds 89 = .ok (.iload 4, 2) := by decide +kernel
theorem dX8_odds_91 : decode cX8_odds 91 = .ok (.goto 5, 3) := by decide +kernel
theorem dX8_odds_94 : decode cX8_odds 94 = .ok (.iload 5, 2) := by decide +kernel
theorem dX8_odds_96 : decode cX8_odds 96 = .ok (.ireturn, 1) := by decide +kernel
theorem dX8_isSo_0 : decode cX8_isSo 0 = .ok (.iconst 1, 1) := by decide +kernel
theorem dX8_isSo_1 : decode cX8_isSo 1 = .ok (.istore_n 3, 1) := by decide +kernel
theorem dX8_isSo_2 : decode cX8_isSo 2 = .ok (.iconst 0, 1) := by decide +kernel
theorem dX8_isSo_3 : decode cX8_isSo 3 = .ok (.istore 4, 2) := by decide +kernel
theorem dX8_isSo_5 : decode cX8_isSo 5 = .ok (.iload 4, 2) := by decide +kernel
theorem dX8_isSo_7 : decode cX8_isSo 7 = .ok (.aload_n 0, 1) := by decide +kernel
theorem dX8_isSo_8 : decode cX8_isSo 8 = .ok (.getfield 25, 3) := by decide +kernel
theorem dX8_isSo_11 : decode cX8_isSo 11 = .ok (.iload_n 1, 1) := by decide +kernel
theorem dX8_isSo_12 : decode cX8_isSo 12 = .ok (.iaload, 1) := by decide +kernel
theorem dX8_isSo_13 : decode cX8_isSo 13 = .ok (.if_icmp .ge 43, 3) := by decide +kernel
theorem dX8_isSo_16 : decode cX8_isSo 16 = .ok (.iload_n 3, 1) := by decide +kernel
theorem dX8_isSo_17 : decode cX8_isSo 17 = .ok (.ifCond .eq 39, 3) := by decide +kernel
theorem dX8_isSo_20 : decode cX8_isSo 20 = .ok (.aload_n 0, 1) := by decide +kernel
theorem dX8_isSo_21 : decode cX8_isSo 21 = .ok (.getfield 28, 3) := by decide +kernel
theorem dX8_isSo_24 : decode cX8_isSo 24 = .ok (.bipush 24, 2) := by decide +kernel
theorem dX8_isSo_26 : decode cX8_isSo 26 = .ok (.iload_n 1, 1) := by decide +kernel
theorem dX8_isSo_27 : decode cX8_isSo 27 = .ok (.imul, 1) := by decide +kernel
theorem dX8_isSo_28 : decode cX8_isSo 28 = .ok (.iload 4, 2) := by decide +kernel
theorem dX8_isSo_30 : decode cX8_isSo 30 = .ok (.iadd, 1) := by decide +kernel
theorem dX8_isSo_31 : decode cX8_isSo 31 = .ok (.iaload, 1) := by decide +kernel
theorem dX8_isSo_32 : decode cX8_isSo 32 = .ok (.aload_n 0, 1) := by decide +kernel
theorem dX8_isSo_33 : decode cX8_isSo 33 = .ok (.iload_n 2, 1) := by decide +kernel
theorem dX8_isSo_34 : decode cX8_isSo 34 = .ok (.iconst 5, 1) := by decide +kernel
theorem dX8_isSo_35 : decode cX8_isSo 35 = .ok (.iload 4, 2) := by decide +kernel
theorem dX8_isSo_37 : decode cX8_isSo 37 = .ok (.iadd, 1) := by decide +kernel
theorem dX8_isSo_38 : decode cX8_isSo 38 = .ok (.invokevirtual 55, 3) := by decide +kernel
theorem dX8_isSo_41 : decode cX8_isSo 41 = .ok (.if_icmp .ne 7, 3) := by decide +kernel
theorem dX8_isSo_44 : decode cX8_isSo 44 = .ok (.iconst 1, 1) := by decide +kernel
theorem dX8_isSo_45 : decode cX8_isSo 45 = .ok (.goto 4, 3) := by decide +kernel
theorem dX8_isSo_48 : decode cX8_isSo 48 = .ok (.iconst 0, 1) := by decide +kernel
theorem dX8_isSo_49 : decode cX8_isSo 49 = .ok (.istore_n 3, 1) := by decide +kernel
theorem dX8_isSo_50 : decode cX8_isSo 50 = .ok (.iinc 4 1, 3) := by decide +kernel
theorem dX8_isSo_53 : decode cX8_isSo 53 = .ok (.goto (-48), 3) := by decide +kernel
theorem dX8_isSo_56 : decode cX8_isSo 56 = .ok (.iload_n 3, 1) := by decide +kernel
theorem dX8_isSo_57 : decode cX8_isSo 57 = .ok (.ireturn, 1) := by decide +kernel
theorem dX8_fits_0 : decode cX8_fits 0 = .ok (.iload_n 1, 1) := by decide +kernel
theorem dX8_fits_1 : decode cX8_fits 1 = .ok (.invokestatic 227, 3) := by decide +kernel
theorem dX8_fits_4 : decode cX8_fits 4 = .ok (.ifCond .eq 11, 3) := by decide +kernel
theorem dX8_fits_7 : decode cX8_fits 7 = .ok (.aload_n 0, 1) := by decide +kernel
theorem dX8_fits_8 : decode cX8_fits 8 = .ok (.iload_n 2, 1) := by decide +kernel
theorem dX8_fits_9 : decode cX8_fits 9 = .ok (.invokevirtual 106, 3) := by decide +kernel
theorem dX8_fits_12 : decode cX8_fits 12 = .ok (.ifCond .ne 10, 3) := by decide +kernel
theorem dX8_fits_15 : decode cX8_fits 15 = .ok (.aload_n 0, 1) := by decide +kernel
theorem dX8_fits_16 : decode cX8_fits 16 = .ok (.ldc 100, 2) := by decide +kernel
theorem dX8_fits_18 : decode cX8_fits 18 = .ok (.invokevirtual 101, 3) := by decide +kernel
theorem dX8_fits_21 : decode cX8_fits 21 = .ok (.ireturn, 1) := by decide +kernel
theorem dX8_fits_22 : decode cX8_fits 22 = .ok (.aload_n 0, 1) := by decide +kernel
theorem dX8_fits_23 : decode cX8_fits 23 = .ok (.getfield 22, 3) := by decide +kernel
theorem dX8_fits_26 : decode cX8_fits 26 = .ok (.iload_n 1, 1) := by decide +kernel
theorem dX8_fits_27 : decode cX8_fits 27 = .ok (.iaload, 1) := by decide +kernel
theorem dX8_fits_28 : decode cX8_fits 28 = .ok (.ifCond .eq 18, 3) := by decide +kernel
theorem dX8_fits_31 : decode cX8_fits 31 = .ok (.aload_n 0, 1) := by decide +kernel
theorem dX8_fits_32 : decode cX8_fits 32 = .ok (.getfield 25, 3) := by decide +kernel
theorem dX8_fits_35 : decode cX8_fits 35 = .ok (.iload_n 1, 1) := by decide +kernel
theorem dX8_fits_36 : decode cX8_fits 36 = .ok (.iaload, 1) := by decide +kernel
theorem dX8_fits_37 : decode cX8_fits 37 = .ok (.aload_n 0, 1) := by decide +kernel
theorem dX8_fits_38 : decode cX8_fits 38 = .ok (.iload_n 2, 1) := by decide +kernel
theorem dX8_fits_39 : decode cX8_fits 39 = .ok (.iconst 3, 1) := by decide +kernel
theorem dX8_fits_40 : decode cX8_fits 40 = .ok (.invokevirtual 55, 3) := by decide +kernel
theorem dX8_fits_43 : decode cX8_fits 43 = .ok (.if_icmp .eq 10, 3) := by decide +kernel
theorem dX8_fits_46 : decode cX8_fits 46 = .ok (.aload_n 0, 1) := by decide +kernel
theorem dX8_fits_47 : decode cX8_fits 47 = .ok (.ldc 218, 2) := by decide +kernel
theorem dX8_fits_49 : decode cX8_fits 49 = .ok (.invokevirtual 101, 3) := by decide +kernel
theorem dX8_fits_52 : decode cX8_fits 52 = .ok (.ireturn, 1) := by decide +kernel
theorem dX8_fits_53 : decode cX8_fits 53 = .ok (.aload_n 0, 1) := by decide +kernel
theorem dX8_fits_54 : decode cX8_fits 54 = .ok (.invokevirtual 212, 3) := by decide +kernel
theorem dX8_fits_57 : decode cX8_fits 57 = .ok (.iconst 0, 1) := by decide +kernel
theorem dX8_fits_58 : decode cX8_fits 58 = .ok (.istore_n 3, 1) := by decide +kernel
theorem dX8_fits_59 : decode cX8_fits 59 = .ok (.iload_n 3, 1) := by decide +kernel
theorem dX8_fits_60 : decode cX8_fits 60 = .ok (.bipush 60, 2) := by decide +kernel
theorem dX8_fits_62 : decode cX8_fits 62 = .ok (.if_icmp .gt 22, 3) := by decide +kernel
theorem dX8_fits_65 : decode cX8_fits 65 = .ok (.aload_n 0, 1) := by decide +kernel
theorem dX8_fits_66 : decode cX8_fits 66 = .ok (.iload_n 1, 1) := by decide +kernel
theorem dX8_fits_67 : decode cX8_fits 67 = .ok (.iload_n 2, 1) := by decide +kernel
theorem dX8_fits_68 : decode cX8_fits 68 = .ok (.invokevirtual 230, 3) := by decide +kernel
theorem dX8_fits_71 : decode cX8_fits 71 = .ok (.ifCond .ne 13, 3) := by decide +kernel
theorem dX8_fits_74 : decode cX8_fits 74 = .ok (.aload_n 0, 1) := by decide +kernel
theorem dX8_fits_75 : decode cX8_fits 75 = .ok (.invokevirtual 195, 3) := by decide +kernel
theorem dX8_fits_78 : decode cX8_fits 78 = .ok (.iinc 3 1, 3) := by decide +kernel
theorem dX8_fits_81 : decode cX8_fits 81 = .ok (.goto (-22), 3) := by decide +kernel
theorem dX8_fits_84 : decode cX8_fits 84 = .ok (.aload_n 0, 1) := by decide +kernel
theorem dX8_fits_85 : decode cX8_fits 85 = .ok (.invokevirtual 215, 3) := by decide +kernel
theorem dX8_fits_88 : decode cX8_fits 88 = .ok (.iload_n 3, 1) := by decide +kernel
theorem dX8_fits_89 : decode cX8_fits 89 = .ok (.bipush 60, 2) := by decide +kernel
theorem dX8_fits_91 : decode cX8_fits 91 = .ok (.if_icmp .le 12, 3) := by decide +kernel
theorem dX8_fits_94 : decode cX8_fits 94 = .ok (.aload_n 0, 1) := by decide +kernel
theorem dX8_fits_95 : decode cX8_fits 95 = .ok (.ldc 218, 2) := by decide +kernel
theorem dX8_fits_97 : decode cX8_fits 97 = .ok (.invokevirtual 101, 3) := by decide +kernel
theorem dX8_fits_100 : decode cX8_fits 100 = .ok (.goto 4, 3) := by decide +kernel
theorem dX8_fits_103 : decode cX8_fits 103 = .ok (.iload_n 3, 1) := by decide +kernel
theorem dX8_fits_104 : decode cX8_fits 104 = .ok (.ireturn, 1) := by decide +kernel
theorem dX8_begins_0 : decode cX8_begins 0 = .ok (.aload_n 0, 1) := by decide +kernel
theorem dX8_begins_1 : decode cX8_begins 1 = .ok (.getfield 233, 3) := by decide +kernel
theorem dX8_begins_4 : decode cX8_begins 4 = .ok (.bipush 30, 2) := by decide +kernel
theorem dX8_begins_6 : decode cX8_begins 6 = .ok (.if_icmp .ge 23, 3) := by decide +kernel
theorem dX8_begins_9 : decode cX8_begins 9 = .ok (.aload_n 0, 1) := by decide +kernel
theorem dX8_begins_10 : decode cX8_begins 10 = .ok (.getfield 43, 3) := by decide +kernel
theorem dX8_begins_13 : decode cX8_begins 13 = .ok (.aload_n 0, 1) := by decide +kernel
theorem dX8_begins_14 : decode cX8_begins 14 = .ok (.getfield 233, 3) := by decide +kernel
theorem dX8_begins_17 : decode cX8_begins 17 = .ok (.iload_n 1, 1) := by decide +kernel
theorem dX8_begins_18 : decode cX8_begins 18 = .ok (.iastore, 1) := by decide +kernel
theorem dX8_begins_19 : decode cX8_begins 19 = .ok (.aload_n 0, 1) := by decide +kernel
theorem dX8_begins_20 : decode cX8_begins 20 = .ok (.dup, 1) := by decide +kernel
theorem dX8_begins_21 : decode cX8_begins 21 = .ok (.getfield 233, 3) := by decide +kernel
theorem dX8_begins_24 : decode cX8_begins 24 = .ok (.iconst 1, 1) := by decide +kernel
theorem dX8_begins_25 : decode cX8_begins 25 = .ok (.iadd, 1) := by decide +kernel
theorem dX8_begins_26 : decode cX8_begins 26 = .ok (.putfield 233, 3) := by decide +kernel
theorem dX8_begins_29 : decode cX8_begins 29 = .ok (.return_, 1) := by decide +kernel
theorem dX8_plainSings_0 : decode cX8_plainSings 0 = .ok (.aload_n 0, 1) := by decide +kernel
theorem dX8_plainSings_1 : decode cX8_plainSings 1 = .ok (.bipush 10, 2) := by decide +kernel
theorem dX8_plainSings_3 : decode cX8_plainSings 3 = .ok (.invokevirtual 236, 3) := by decide +kernel
theorem dX8_plainSings_6 : decode cX8_plainSings 6 = .ok (.iload_n 2, 1) := by decide +kernel
theorem dX8_plainSings_7 : decode cX8_plainSings 7 = .ok (.iload_n 1, 1) := by decide +kernel
theorem dX8_plainSings_8 : decode cX8_plainSings 8 = .ok (.iadd, 1) := by decide +kernel
theorem dX8_plainSings_9 : decode cX8_plainSings 9 = .ok (.ireturn, 1) := by decide +kernel
theorem dX8_northernSings_0 : decode cX8_northernSings 0 = .ok (.aload_n 0, 1) := by decide +kernel
theorem dX8_northernSings_1 : decode cX8_northernSings 1 = .ok (.bipush 20, 2) := by decide +kernel
theorem dX8_northernSings_3 : decode cX8_northernSings 3 = .ok (.invokevirtual 236, 3) := by decide +kernel
theorem dX8_northernSings_6 : decode cX8_northernSings 6 = .ok (.aload_n 0, 1) := by decide +kernel
theorem dX8_northernSings_7 : decode cX8_northernSings 7 = .ok (.iload_n 1, 1) := by decide +kernel
theorem dX8_northernSings_8 : decode cX8_northernSings 8 = .ok (.iload_n 2, 1) := by decide +kernel
theorem dX8_northernSings_9 : decode cX8_northernSings 9 = .ok (.invokevirtual 239, 3) := by decide +kernel
theorem dX8_northernSings_12 : decode cX8_northernSings 12 = .ok (.iconst 4, 1) := by decide +kernel
theorem dX8_northernSings_13 : decode cX8_northernSings 13 = .ok (.isub, 1) := by decide +kernel
theorem dX8_northernSings_14 : decode cX8_northernSings 14 = .ok (.ireturn, 1) := by decide +kernel
theorem dX8_sings_0 : decode cX8_sings 0 = .ok (.aload_n 0, 1) := by decide +kernel
theorem dX8_sings_1 : decode cX8_sings 1 = .ok (.iload_n 1, 1) := by decide +kernel
theorem dX8_sings_2 : decode cX8_sings 2 = .ok (.iconst 0, 1) := by decide +kernel
theorem dX8_sings_3 : decode cX8_sings 3 = .ok (.invokevirtual 55, 3) := by decide +kernel
theorem dX8_sings_6 : decode cX8_sings 6 = .ok (.lookupswitch 65 #[(1, 34), (4, 41), (6, 56)], 34) := by decide +kernel
theorem dX8_sings_40 : decode cX8_sings 40 = .ok (.aload_n 0, 1) := by decide +kernel
theorem dX8_sings_41 : decode cX8_sings 41 = .ok (.iload_n 1, 1) := by decide +kernel
theorem dX8_sings_42 : decode cX8_sings 42 = .ok (.iload_n 2, 1) := by decide +kernel
theorem dX8_sings_43 : decode cX8_sings 43 = .ok (.invokevirtual 242, 3) := by decide +kernel
theorem dX8_sings_46 : decode cX8_sings 46 = .ok (.ireturn, 1) := by decide +kernel
theorem dX8_sings_47 : decode cX8_sings 47 = .ok (.aload_n 0, 1) := by decide +kernel
theorem dX8_sings_48 : decode cX8_sings 48 = .ok (.bipush 50, 2) := by decide +kernel
theorem dX8_sings_50 : decode cX8_sings 50 = .ok (.invokevirtual 236, 3) := by decide +kernel
theorem dX8_sings_53 : decode cX8_sings 53 = .ok (.aload_n 0, 1) := by decide +kernel
theorem dX8_sings_54 : decode cX8_sings 54 = .ok (.iload_n 1, 1) := by decide +kernel
theorem dX8_sings_55 : decode cX8_sings 55 = .ok (.iload_n 2, 1) := by decide +kernel
theorem dX8_sings_56 : decode cX8_sings 56 = .ok (.invokevirtual 242, 3) := by decide +kernel
theorem dX8_sings_59 : decode cX8_sings 59 = .ok (.iconst 3, 1) := by decide +kernel
theorem dX8_sings_60 : decode cX8_sings 60 = .ok (.imul, 1) := by decide +kernel
theorem dX8_sings_61 : decode cX8_sings 61 = .ok (.ireturn, 1) := by decide +kernel
theorem dX8_sings_62 : decode cX8_sings 62 = .ok (.aload_n 0, 1) := by decide +kernel
theorem dX8_sings_63 : decode cX8_sings 63 = .ok (.bipush 70, 2) := by decide +kernel
theorem dX8_sings_65 : decode cX8_sings 65 = .ok (.invokevirtual 236, 3) := by decide +kernel
theorem dX8_sings_68 : decode cX8_sings 68 = .ok (.bipush 9, 2) := by decide +kernel
theorem dX8_sings_70 : decode cX8_sings 70 = .ok (.ireturn, 1) := by decide +kernel
theorem dX8_sings_71 : decode cX8_sings 71 = .ok (.aload_n 0, 1) := by decide +kernel
theorem dX8_sings_72 : decode cX8_sings 72 = .ok (.iload_n 1, 1) := by decide +kernel
theorem dX8_sings_73 : decode cX8_sings 73 = .ok (.iload_n 2, 1) := by decide +kernel
theorem dX8_sings_74 : decode cX8_sings 74 = .ok (.invokevirtual 239, 3) := by decide +kernel
theorem dX8_sings_77 : decode cX8_sings 77 = .ok (.ireturn, 1) := by decide +kernel
theorem dX8_plainLeans_0 : decode cX8_plainLeans 0 = .ok (.aload_n 0, 1) := by decide +kernel
theorem dX8_plainLeans_1 : decode cX8_plainLeans 1 = .ok (.bipush 11, 2) := by decide +kernel
theorem dX8_plainLeans_3 : decode cX8_plainLeans 3 = .ok (.invokevirtual 236, 3) := by decide +kernel
theorem dX8_plainLeans_6 : decode cX8_plainLeans 6 = .ok (.aload_n 0, 1) := by decide +kernel
theorem dX8_plainLeans_7 : decode cX8_plainLeans 7 = .ok (.iload_n 1, 1) := by decide +kernel
theorem dX8_plainLeans_8 : decode cX8_plainLeans 8 = .ok (.iload_n 2, 1) := by decide +kernel
theorem dX8_plainLeans_9 : decode cX8_plainLeans 9 = .ok (.invokevirtual 245, 3) := by decide +kernel
theorem dX8_plainLeans_12 : decode cX8_plainLeans 12 = .ok (.iconst 2, 1) := by decide +kernel
theorem dX8_plainLeans_13 : decode cX8_plainLeans 13 = .ok (.imul, 1) := by decide +kernel
theorem dX8_plainLeans_14 : decode cX8_plainLeans 14 = .ok (.ireturn, 1) := by decide +kernel
theorem dX8_laggingLeans_0 : decode cX8_laggingLeans 0 = .ok (.aload_n 0, 1) := by decide +kernel
theorem dX8_laggingLeans_1 : decode cX8_laggingLeans 1 = .ok (.bipush 30, 2) := by decide +kernel
theorem dX8_laggingLeans_3 : decode cX8_laggingLeans 3 = .ok (.invokevirtual 236, 3) := by decide +kernel
theorem dX8_laggingLeans_6 : decode cX8_laggingLeans 6 = .ok (.aload_n 0, 1) := by decide +kernel
theorem dX8_laggingLeans_7 : decode cX8_laggingLeans 7 = .ok (.iload_n 1, 1) := by decide +kernel
theorem dX8_laggingLeans_8 : decode cX8_laggingLeans 8 = .ok (.iload_n 2, 1) := by decide +kernel
theorem dX8_laggingLeans_9 : decode cX8_laggingLeans 9 = .ok (.invokevirtual 248, 3) := by decide +kernel
theorem dX8_laggingLeans_12 : decode cX8_laggingLeans 12 = .ok (.ineg, 1) := by decide +kernel
theorem dX8_laggingLeans_13 : decode cX8_laggingLeans 13 = .ok (.ireturn, 1) := by decide +kernel
theorem dX8_leans_0 : decode cX8_leans 0 = .ok (.aload_n 0, 1) := by decide +kernel
theorem dX8_leans_1 : decode cX8_leans 1 = .ok (.iload_n 1, 1) := by decide +kernel
theorem dX8_leans_2 : decode cX8_leans 2 = .ok (.iconst 0, 1) := by decide +kernel
theorem dX8_leans_3 : decode cX8_leans 3 = .ok (.invokevirtual 55, 3) := by decide +kernel
theorem dX8_leans_6 : decode cX8_leans 6 = .ok (.tableswitch 76 2 6 #[34, 76, 76, 41, 56], 34) := by decide +kernel
theorem dX8_leans_40 : decode cX8_leans 40 = .ok (.aload_n 0, 1) := by decide +kernel
theorem dX8_leans_41 : decode cX8_leans 41 = .ok (.iload_n 1, 1) := by decide +kernel
theorem dX8_leans_42 : decode cX8_leans 42 = .ok (.iload_n 2, 1) := by decide +kernel
theorem dX8_leans_43 : decode cX8_leans 43 = .ok (.invokevirtual 251, 3) := by decide +kernel
theorem dX8_leans_46 : decode cX8_leans 46 = .ok (.ireturn, 1) := by decide +kernel
theorem dX8_leans_47 : decode cX8_leans 47 = .ok (.aload_n 0, 1) := by decide +kernel
theorem dX8_leans_48 : decode cX8_leans 48 = .ok (.bipush 60, 2) := by decide +kernel
theorem dX8_leans_50 : decode cX8_leans 50 = .ok (.invokevirtual 236, 3) := by decide +kernel
theorem dX8_leans_53 : decode cX8_leans 53 = .ok (.aload_n 0, 1) := by decide +kernel
theorem dX8_leans_54 : decode cX8_leans 54 = .ok (.iload_n 1, 1) := by decide +kernel
theorem dX8_leans_55 : decode cX8_leans 55 = .ok (.iload_n 2, 1) := by decide +kernel
theorem dX8_leans_56 : decode cX8_leans 56 = .ok (.iconst 1, 1) := by decide +kernel
theorem dX8_leans_57 : decode cX8_leans 57 = .ok (.iadd, 1) := by decide +kernel
theorem dX8_leans_58 : decode cX8_leans 58 = .ok (.invokevirtual 251, 3) := by decide +kernel
theorem dX8_leans_61 : decode cX8_leans 61 = .ok (.ireturn, 1) := by decide +kernel
theorem dX8_leans_62 : decode cX8_leans 62 = .ok (.aload_n 0, 1) := by decide +kernel
theorem dX8_leans_63 : decode cX8_leans 63 = .ok (.bipush 71, 2) := by decide +kernel
theorem dX8_leans_65 : decode cX8_leans 65 = .ok (.invokevirtual 236, 3) := by decide +kernel
theorem dX8_leans_68 : decode cX8_leans 68 = .ok (.aload_n 0, 1) := by decide +kernel
theorem dX8_leans_69 : decode cX8_leans 69 = .ok (.iload_n 1, 1) := by decide +kernel
theorem dX8_leans_70 : decode cX8_leans 70 = .ok (.iload_n 2, 1) := by decide +kernel
theorem dX8_leans_71 : decode cX8_leans 71 = .ok (.invokevirtual 248, 3) := by decide +kernel
theorem dX8_leans_74 : decode cX8_leans 74 = .ok (.aload_n 0, 1) := by decide +kernel
theorem dX8_leans_75 : decode cX8_leans 75 = .ok (.iload_n 1, 1) := by decide +kernel
theorem dX8_leans_76 : decode cX8_leans 76 = .ok (.iconst 1, 1) := by decide +kernel
theorem dX8_leans_77 : decode cX8_leans 77 = .ok (.invokevirtual 55, 3) := by decide +kernel
theorem dX8_leans_80 : decode cX8_leans 80 = .ok (.iadd, 1) := by decide +kernel
theorem dX8_leans_81 : decode cX8_leans 81 = .ok (.ireturn, 1) := by decide +kernel
theorem dX8_leans_82 : decode cX8_leans 82 = .ok (.aload_n 0, 1) := by decide +kernel
theorem dX8_leans_83 : decode cX8_leans 83 = .ok (.iload_n 1, 1) := by decide +kernel
theorem dX8_leans_84 : decode cX8_leans 84 = .ok (.iload_n 2, 1) := by decide +kernel
theorem dX8_leans_85 : decode cX8_leans 85 = .ok (.invokevirtual 248, 3) := by decide +kernel
theorem dX8_leans_88 : decode cX8_leans 88 = .ok (.ireturn, 1) := by decide +kernel
theorem dX8_plainSprouts_0 : decode cX8_plainSprouts 0 = .ok (.aload_n 0, 1) := by decide +kernel
theorem dX8_plainSprouts_1 : decode cX8_plainSprouts 1 = .ok (.bipush 12, 2) := by decide +kernel
theorem dX8_plainSprouts_3 : decode cX8_plainSprouts 3 = .ok (.invokevirtual 236, 3) := by decide +kernel
theorem dX8_plainSprouts_6 : decode cX8_plainSprouts 6 = .ok (.aload_n 0, 1) := by decide +kernel
theorem dX8_plainSprouts_7 : decode cX8_plainSprouts 7 = .ok (.iload_n 1, 1) := by decide +kernel
theorem dX8_plainSprouts_8 : decode cX8_plainSprouts 8 = .ok (.iload_n 2, 1) := by decide +kernel
theorem dX8_plainSprouts_9 : decode cX8_plainSprouts 9 = .ok (.invokevirtual 254, 3) := by decide +kernel
theorem dX8_plainSprouts_12 : decode cX8_plainSprouts 12 = .ok (.aload_n 0, 1) := by decide +kernel
theorem dX8_plainSprouts_13 : decode cX8_plainSprouts 13 = .ok (.iload_n 1, 1) := by decide +kernel
theorem dX8_plainSprouts_14 : decode cX8_plainSprouts 14 = .ok (.iconst 1, 1) := by decide +kernel
theorem dX8_plainSprouts_15 : decode cX8_plainSprouts 15 = .ok (.invokevirtual 55, 3) := by decide +kernel
theorem dX8_plainSprouts_18 : decode cX8_plainSprouts 18 = .ok (.isub, 1) := by decide +kernel
theorem dX8_plainSprouts_19 : decode cX8_plainSprouts 19 = .ok (.ireturn, 1) := by decide +kernel
theorem dX8_sprouts_0 : decode cX8_sprouts 0 = .ok (.aload_n 0, 1) := by decide +kernel
theorem dX8_sprouts_1 : decode cX8_sprouts 1 = .ok (.iload_n 1, 1) := by decide +kernel
theorem dX8_sprouts_2 : decode cX8_sprouts 2 = .ok (.iconst 0, 1) := by decide +kernel
theorem dX8_sprouts_3 : decode cX8_sprouts 3 = .ok (.invokevirtual 55, 3) := by decide +kernel
theorem dX8_sprouts_6 : decode cX8_sprouts 6 = .ok (.lookupswitch 56 #[(3, 26), (4, 41)], 26) := by decide +kernel
theorem dX8_sprouts_32 : decode cX8_sprouts 32 = .ok (.aload_n 0, 1) := by decide +kernel
theorem dX8_sprouts_33 : decode cX8_sprouts 33 = .ok (.bipush 40, 2) := by decide +kernel
theorem dX8_sprouts_35 : decode cX8_sprouts 35 = .ok (.invokevirtual 236, 3) := by decide +kernel
theorem dX8_sprouts_38 : decode cX8_sprouts 38 = .ok (.aload_n 0, 1) := by decide +kernel
theorem dX8_sprouts_39 : decode cX8_sprouts 39 = .ok (.iload_n 1, 1) := by decide +kernel
theorem dX8_sprouts_40 : decode cX8_sprouts 40 = .ok (.iload_n 2, 1) := by decide +kernel
theorem dX8_sprouts_41 : decode cX8_sprouts 41 = .ok (.iconst 2, 1) := by decide +kernel
theorem dX8_sprouts_42 : decode cX8_sprouts 42 = .ok (.idiv, 1) := by decide +kernel
theorem dX8_sprouts_43 : decode cX8_sprouts 43 = .ok (.invokevirtual 257, 3) := by decide +kernel
theorem dX8_sprouts_46 : decode cX8_sprouts 46 = .ok (.ireturn, 1) := by decide +kernel
theorem dX8_sprouts_47 : decode cX8_sprouts 47 = .ok (.aload_n 0, 1) := by decide +kernel
theorem dX8_sprouts_48 : decode cX8_sprouts 48 = .ok (.bipush 51, 2) := by decide +kernel
theorem dX8_sprouts_50 : decode cX8_sprouts 50 = .ok (.invokevirtual 236, 3) := by decide +kernel
theorem dX8_sprouts_53 : decode cX8_sprouts 53 = .ok (.aload_n 0, 1) := by decide +kernel
theorem dX8_sprouts_54 : decode cX8_sprouts 54 = .ok (.iload_n 1, 1) := by decide +kernel
theorem dX8_sprouts_55 : decode cX8_sprouts 55 = .ok (.iload_n 2, 1) := by decide +kernel
theorem dX8_sprouts_56 : decode cX8_sprouts 56 = .ok (.invokevirtual 257, 3) := by decide +kernel
theorem dX8_sprouts_59 : decode cX8_sprouts 59 = .ok (.iload_n 1, 1) := by decide +kernel
theorem dX8_sprouts_60 : decode cX8_sprouts 60 = .ok (.ixor, 1) := by decide +kernel
theorem dX8_sprouts_61 : decode cX8_sprouts 61 = .ok (.ireturn, 1) := by decide +kernel
theorem dX8_sprouts_62 : decode cX8_sprouts 62 = .ok (.aload_n 0, 1) := by decide +kernel
theorem dX8_sprouts_63 : decode cX8_sprouts 63 = .ok (.iload_n 1, 1) := by decide +kernel
theorem dX8_sprouts_64 : decode cX8_sprouts 64 = .ok (.iload_n 2, 1) := by decide +kernel
theorem dX8_sprouts_65 : decode cX8_sprouts 65 = .ok (.invokevirtual 257, 3) := by decide +kernel
theorem dX8_sprouts_68 : decode cX8_sprouts 68 = .ok (.ireturn, 1) := by decide +kernel
theorem dX8_plainParts_0 : decode cX8_plainParts 0 = .ok (.aload_n 0, 1) := by decide +kernel
theorem dX8_plainParts_1 : decode cX8_plainParts 1 = .ok (.bipush 13, 2) := by decide +kernel
theorem dX8_plainParts_3 : decode cX8_plainParts 3 = .ok (.invokevirtual 236, 3) := by decide +kernel
theorem dX8_plainParts_6 : decode cX8_plainParts 6 = .ok (.aload_n 0, 1) := by decide +kernel
theorem dX8_plainParts_7 : decode cX8_plainParts 7 = .ok (.iload_n 1, 1) := by decide +kernel
theorem dX8_plainParts_8 : decode cX8_plainParts 8 = .ok (.iconst 1, 1) := by decide +kernel
theorem dX8_plainParts_9 : decode cX8_plainParts 9 = .ok (.invokevirtual 55, 3) := by decide +kernel
theorem dX8_plainParts_12 : decode cX8_plainParts 12 = .ok (.iload_n 1, 1) := by decide +kernel
theorem dX8_plainParts_13 : decode cX8_plainParts 13 = .ok (.isub, 1) := by decide +kernel
theorem dX8_plainParts_14 : decode cX8_plainParts 14 = .ok (.istore_n 3, 1) := by decide +kernel
theorem dX8_plainParts_15 : decode cX8_plainParts 15 = .ok (.aload_n 0, 1) := by decide +kernel
theorem dX8_plainParts_16 : decode cX8_plainParts 16 = .ok (.iload_n 3, 1) := by decide +kernel
theorem dX8_plainParts_17 : decode cX8_plainParts 17 = .ok (.ifCond .ne 7, 3) := by decide +kernel
theorem dX8_plainParts_20 : decode cX8_plainParts 20 = .ok (.iconst 1, 1) := by decide +kernel
theorem dX8_plainParts_21 : decode cX8_plainParts 21 = .ok (.goto 4, 3) := by decide +kernel
theorem dX8_plainParts_24 : decode cX8_plainParts 24 = .ok (.iconst 0, 1) := by decide +kernel
theorem dX8_plainParts_25 : decode cX8_plainParts 25 = .ok (.putfield 260, 3) := by decide +kernel
theorem dX8_plainParts_28 : decode cX8_plainParts 28 = .ok (.aload_n 0, 1) := by decide +kernel
theorem dX8_plainParts_29 : decode cX8_plainParts 29 = .ok (.getfield 260, 3) := by decide +kernel
theorem dX8_plainParts_32 : decode cX8_plainParts 32 = .ok (.ifCond .eq 7, 3) := by decide +kernel
theorem dX8_plainParts_35 : decode cX8_plainParts 35 = .ok (.iconst 0, 1) := by decide +kernel
theorem dX8_plainParts_36 : decode cX8_plainParts 36 = .ok (.goto 6, 3) := by decide +kernel
theorem dX8_plainParts_39 : decode cX8_plainParts 39 = .ok (.iload_n 2, 1) := by decide +kernel
theorem dX8_plainParts_40 : decode cX8_plainParts 40 = .ok (.iload_n 3, 1) := by decide +kernel
theorem dX8_plainParts_41 : decode cX8_plainParts 41 = .ok (.idiv, 1) := by decide +kernel
theorem dX8_plainParts_42 : decode cX8_plainParts 42 = .ok (.ireturn, 1) := by decide +kernel
theorem dX8_parts_0 : decode cX8_parts 0 = .ok (.aload_n 0, 1) := by decide +kernel
theorem dX8_parts_1 : decode cX8_parts 1 = .ok (.iload_n 1, 1) := by decide +kernel
theorem dX8_parts_2 : decode cX8_parts 2 = .ok (.iconst 0, 1) := by decide +kernel
theorem dX8_parts_3 : decode cX8_parts 3 = .ok (.invokevirtual 55, 3) := by decide +kernel
theorem dX8_parts_6 : decode cX8_parts 6 = .ok (.iconst 1, 1) := by decide +kernel
theorem dX8_parts_7 : decode cX8_parts 7 = .ok (.if_icmp .eq 13, 3) := by decide +kernel
theorem dX8_parts_10 : decode cX8_parts 10 = .ok (.aload_n 0, 1) := by decide +kernel
theorem dX8_parts_11 : decode cX8_parts 11 = .ok (.iload_n 1, 1) := by decide +kernel
theorem dX8_parts_12 : decode cX8_parts 12 = .ok (.iconst 0, 1) := by decide +kernel
theorem dX8_parts_13 : decode cX8_parts 13 = .ok (.invokevirtual 55, 3) := by decide +kernel
theorem dX8_parts_16 : decode cX8_parts 16 = .ok (.iconst 4, 1) := by decide +kernel
theorem dX8_parts_17 : decode cX8_parts 17 = .ok (.if_icmp .ne 36, 3) := by decide +kernel
theorem dX8_parts_20 : decode cX8_parts 20 = .ok (.aload_n 0, 1) := by decide +kernel
theorem dX8_parts_21 : decode cX8_parts 21 = .ok (.bipush 21, 2) := by decide +kernel
theorem dX8_parts_23 : decode cX8_parts 23 = .ok (.invokevirtual 236, 3) := by decide +kernel
theorem dX8_parts_26 : decode cX8_parts 26 = .ok (.aload_n 0, 1) := by decide +kernel
theorem dX8_parts_27 : decode cX8_parts 27 = .ok (.iload_n 1, 1) := by decide +kernel
theorem dX8_parts_28 : decode cX8_parts 28 = .ok (.iload_n 2, 1) := by decide +kernel
theorem dX8_parts_29 : decode cX8_parts 29 = .ok (.invokevirtual 263, 3) := by decide +kernel
theorem dX8_parts_32 : decode cX8_parts 32 = .ok (.istore_n 3, 1) := by decide +kernel
theorem dX8_parts_33 : decode cX8_parts 33 = .ok (.aload_n 0, 1) := by decide +kernel
theorem dX8_parts_34 : decode cX8_parts 34 = .ok (.getfield 260, 3) := by decide +kernel
theorem dX8_parts_37 : decode cX8_parts 37 = .ok (.ifCond .eq 7, 3) := by decide +kernel
theorem dX8_parts_40 : decode cX8_parts 40 = .ok (.iconst 0, 1) := by decide +kernel
theorem dX8_parts_41 : decode cX8_parts 41 = .ok (.goto 11, 3) := by decide +kernel
theorem dX8_parts_44 : decode cX8_parts 44 = .ok (.iload_n 3, 1) := by decide +kernel
theorem dX8_parts_45 : decode cX8_parts 45 = .ok (.aload_n 0, 1) := by decide +kernel
theorem dX8_parts_46 : decode cX8_parts 46 = .ok (.iload_n 1, 1) := by decide +kernel
theorem dX8_parts_47 : decode cX8_parts 47 = .ok (.iconst 1, 1) := by decide +kernel
theorem dX8_parts_48 : decode cX8_parts 48 = .ok (.invokevirtual 254, 3) := by decide +kernel
theorem dX8_parts_51 : decode cX8_parts 51 = .ok (.iadd, 1) := by decide +kernel
theorem dX8_parts_52 : decode cX8_parts 52 = .ok (.ireturn, 1) := by decide +kernel
theorem dX8_parts_53 : decode cX8_parts 53 = .ok (.aload_n 0, 1) := by decide +kernel
theorem dX8_parts_54 : decode cX8_parts 54 = .ok (.iload_n 1, 1) := by decide +kernel
theorem dX8_parts_55 : decode cX8_parts 55 = .ok (.iload_n 2, 1) := by decide +kernel
theorem dX8_parts_56 : decode cX8_parts 56 = .ok (.invokevirtual 263, 3) := by decide +kernel
theorem dX8_parts_59 : decode cX8_parts 59 = .ok (.ireturn, 1) := by decide +kernel
theorem dX8_voice_0 : decode cX8_voice 0 = .ok (.aload_n 0, 1) := by decide +kernel
theorem dX8_voice_1 : decode cX8_voice 1 = .ok (.iload_n 1, 1) := by decide +kernel
theorem dX8_voice_2 : decode cX8_voice 2 = .ok (.invokevirtual 106, 3) := by decide +kernel
theorem dX8_voice_5 : decode cX8_voice 5 = .ok (.ifCond .eq 12, 3) := by decide +kernel
theorem dX8_voice_8 : decode cX8_voice 8 = .ok (.iload_n 2, 1) := by decide +kernel
theorem dX8_voice_9 : decode cX8_voice 9 = .ok (.iconst 0, 1) := by decide +kernel
theorem dX8_voice_10 : decode cX8_voice 10 = .ok (.iconst 3, 1) := by decide +kernel
theorem dX8_voice_11 : decode cX8_voice 11 = .ok (.invokestatic 51, 3) := by decide +kernel
theorem dX8_voice_14 : decode cX8_voice 14 = .ok (.ifCond .ne 10, 3) := by decide +kernel
theorem dX8_voice_17 : decode cX8_voice 17 = .ok (.aload_n 0, 1) := by decide +kernel
theorem dX8_voice_18 : decode cX8_voice 18 = .ok (.ldc 100, 2) := by decide +kernel
theorem dX8_voice_20 : decode cX8_voice 20 = .ok (.invokevirtual 101, 3) := by decide +kernel
theorem dX8_voice_23 : decode cX8_voice 23 = .ok (.ireturn, 1) := by decide +kernel
theorem dX8_voice_24 : decode cX8_voice 24 = .ok (.aload_n 0, 1) := by decide +kernel
theorem dX8_voice_25 : decode cX8_voice 25 = .ok (.iconst 0, 1) := by decide +kernel
theorem dX8_voice_26 : decode cX8_voice 26 = .ok (.putfield 233, 3) := by decide +kernel
theorem dX8_voice_29 : decode cX8_voice 29 = .ok (.aload_n 0, 1) := by decide +kernel
theorem dX8_voice_30 : decode cX8_voice 30 = .ok (.iconst 0, 1) := by decide +kernel
theorem dX8_voice_31 : decode cX8_voice 31 = .ok (.putfield 260, 3) := by decide +kernel
theorem dX8_voice_34 : decode cX8_voice 34 = .ok (.iload_n 2, 1) := by decide +kernel
theorem dX8_voice_35 : decode cX8_voice 35 = .ok (.ifCond .ne 12, 3) := by decide +kernel
theorem dX8_voice_38 : decode cX8_voice 38 = .ok (.aload_n 0, 1) := by decide +kernel
theorem dX8_voice_39 : decode cX8_voice 39 = .ok (.iload_n 1, 1) := by decide +kernel
theorem dX8_voice_40 : decode cX8_voice 40 = .ok (.iload_n 3, 1) := by decide +kernel
theorem dX8_voice_41 : decode cX8_voice 41 = .ok (.invokevirtual 245, 3) := by decide +kernel
theorem dX8_voice_44 : decode cX8_voice 44 = .ok (.goto 37, 3) := by decide +kernel
theorem dX8_voice_47 : decode cX8_voice 47 = .ok (.iload_n 2, 1) := by decide +kernel
theorem dX8_voice_48 : decode cX8_voice 48 = .ok (.iconst 1, 1) := by decide +kernel
theorem dX8_voice_49 : decode cX8_voice 49 = .ok (.if_icmp .ne 12, 3) := by decide +kernel
theorem dX8_voice_52 : decode cX8_voice 52 = .ok (.aload_n 0, 1) := by decide +kernel
theorem dX8_voice_53 : decode cX8_voice 53 = .ok (.iload_n 1, 1) := by decide +kernel
theorem dX8_voice_54 : decode cX8_voice 54 = .ok (.iload_n 3, 1) := by decide +kernel
theorem dX8_voice_55 : decode cX8_voice 55 = .ok (.invokevirtual 254, 3) := by decide +kernel
theorem dX8_voice_58 : decode cX8_voice 58 = .ok (.goto 23, 3) := by decide +kernel
theorem dX8_voice_61 : decode cX8_voice 61 = .ok (.iload_n 2, 1) := by decide +kernel
theorem dX8_voice_62 : decode cX8_voice 62 = .ok (.iconst 2, 1) := by decide +kernel
theorem dX8_voice_63 : decode cX8_voice 63 = .ok (.if_icmp .ne 12, 3) := by decide +kernel
theorem dX8_voice_66 : decode cX8_voice 66 = .ok (.aload_n 0, 1) := by decide +kernel
theorem dX8_voice_67 : decode cX8_voice 67 = .ok (.iload_n 1, 1) := by decide +kernel
theorem dX8_voice_68 : decode cX8_voice 68 = .ok (.iload_n 3, 1) := by decide +kernel
theorem dX8_voice_69 : decode cX8_voice 69 = .ok (.invokevirtual 266, 3) := by decide +kernel
theorem dX8_voice_72 : decode cX8_voice 72 = .ok (.goto 9, 3) := by decide +kernel
theorem dX8_voice_75 : decode cX8_voice 75 = .ok (.aload_n 0, 1) := by decide +kernel
theorem dX8_voice_76 : decode cX8_voice 76 = .ok (.iload_n 1, 1) := by decide +kernel
theorem dX8_voice_77 : decode cX8_voice 77 = .ok (.iload_n 3, 1) := by decide +kernel
theorem dX8_voice_78 : decode cX8_voice 78 = .ok (.invokevirtual 269, 3) := by decide +kernel
theorem dX8_voice_81 : decode cX8_voice 81 = .ok (.istore 4, 2) := by decide +kernel
theorem dX8_voice_83 : decode cX8_voice 83 = .ok (.aload_n 0, 1) := by decide +kernel
theorem dX8_voice_84 : decode cX8_voice 84 = .ok (.getfield 260, 3) := by decide +kernel
theorem dX8_voice_87 : decode cX8_voice 87 = .ok (.ifCond .eq 13, 3) := by decide +kernel
theorem dX8_voice_90 : decode cX8_voice 90 = .ok (.aload_n 0, 1) := by decide +kernel
theorem dX8_voice_91 : decode cX8_voice 91 = .ok (.ldc_w 272, 3) := by decide +kernel
theorem dX8_voice_94 : decode cX8_voice 94 = .ok (.invokevirtual 101, 3) := by decide +kernel
theorem dX8_voice_97 : decode cX8_voice 97 = .ok (.goto 5, 3) := by decide +kernel
theorem dX8_voice_100 : decode cX8_voice 100 = .ok (.iload 4, 2) := by decide +kernel
theorem dX8_voice_102 : decode cX8_voice 102 = .ok (.ireturn, 1) := by decide +kernel
theorem dX8_body_0 : decode cX8_body 0 = .ok (.iload_n 1, 1) := by decide +kernel
theorem dX8_body_1 : decode cX8_body 1 = .ok (.iconst 0, 1) := by decide +kernel
theorem dX8_body_2 : decode cX8_body 2 = .ok (.aload_n 0, 1) := by decide +kernel
theorem dX8_body_3 : decode cX8_body 3 = .ok (.getfield 233, 3) := by decide +kernel
theorem dX8_body_6 : decode cX8_body 6 = .ok (.iconst 1, 1) := by decide +kernel
theorem dX8_body_7 : decode cX8_body 7 = .ok (.isub, 1) := by decide +kernel
theorem dX8_body_8 : decode cX8_body 8 = .ok (.invokestatic 51, 3) := by decide +kernel
theorem dX8_body_11 : decode cX8_body 11 = .ok (.ifCond .eq 12, 3) := by decide +kernel
theorem dX8_body_14 : decode cX8_body 14 = .ok (.aload_n 0, 1) := by decide +kernel
theorem dX8_body_15 : decode cX8_body 15 = .ok (.getfield 43, 3) := by decide +kernel
theorem dX8_body_18 : decode cX8_body 18 = .ok (.iload_n 1, 1) := by decide +kernel
theorem dX8_body_19 : decode cX8_body 19 = .ok (.iaload, 1) := by decide +kernel
theorem dX8_body_20 : decode cX8_body 20 = .ok (.goto 9, 3) := by decide +kernel
theorem dX8_body_23 : decode cX8_body 23 = .ok (.aload_n 0, 1) := by decide +kernel
theorem dX8_body_24 : decode cX8_body 24 = .ok (.ldc 218, 2) := by decide +kernel
theorem dX8_body_26 : decode cX8_body 26 = .ok (.invokevirtual 101, 3) := by decide +kernel
theorem dX8_body_29 : decode cX8_body 29 = .ok (.ireturn, 1) := by decide +kernel
theorem dX8_isSheet_0 : decode cX8_isSheet 0 = .ok (.iload_n 0, 1) := by decide +kernel
theorem dX8_isSheet_1 : decode cX8_isSheet 1 = .ok (.iconst 0, 1) := by decide +kernel
theorem dX8_isSheet_2 : decode cX8_isSheet 2 = .ok (.iconst 3, 1) := by decide +kernel
theorem dX8_isSheet_3 : decode cX8_isSheet 3 = .ok (.invokestatic 51, 3) := by decide +kernel
theorem dX8_isSheet_6 : decode cX8_isSheet 6 = .ok (.ireturn, 1) := by decide +kernel
theorem dX8_sheet_0 : decode cX8_sheet 0 = .ok (.iload_n 1, 1) := by decide +kernel
theorem dX8_sheet_1 : decode cX8_sheet 1 = .ok (.invokestatic 227, 3) := by decide +kernel
theorem dX8_sheet_4 : decode cX8_sheet 4 = .ok (.ifCond .eq 25, 3) := by decide +kernel
theorem dX8_sheet_7 : decode cX8_sheet 7 = .ok (.iload_n 2, 1) := by decide +kernel
theorem dX8_sheet_8 : decode cX8_sheet 8 = .ok (.ifCond .eq 28, 3) := by decide +kernel
theorem dX8_sheet_11 : decode cX8_sheet 11 = .ok (.iload_n 2, 1) := by decide +kernel
theorem dX8_sheet_12 : decode cX8_sheet 12 = .ok (.bipush 8, 2) := by decide +kernel
theorem dX8_sheet_14 : decode cX8_sheet 14 = .ok (.if_icmp .eq 22, 3) := by decide +kernel
theorem dX8_sheet_17 : decode cX8_sheet 17 = .ok (.iload_n 2, 1) := by decide +kernel
theorem dX8_sheet_18 : decode cX8_sheet 18 = .ok (.bipush 16, 2) := by decide +kernel
theorem dX8_sheet_20 : decode cX8_sheet 20 = .ok (.if_icmp .eq 16, 3) := by decide +kernel
theorem dX8_sheet_23 : decode cX8_sheet 23 = .ok (.iload_n 2, 1) := by decide +kernel
theorem dX8_sheet_24 : decode cX8_sheet 24 = .ok (.bipush 32, 2) := by decide +kernel
theorem dX8_sheet_26 : decode cX8_sheet 26 = .ok (.if_icmp .eq 10, 3) := by decide +kernel
theorem dX8_sheet_29 : decode cX8_sheet 29 = .ok (.aload_n 0, 1) := by decide +kernel
theorem dX8_sheet_30 : decode cX8_sheet 30 = .ok (.ldc 100, 2) := by decide +kernel
theorem dX8_sheet_32 : decode cX8_sheet 32 = .ok (.invokevirtual 101, 3) := by decide +kernel
theorem dX8_sheet_35 : decode cX8_sheet 35 = .ok (.ireturn, 1) := by decide +kernel
theorem dX8_sheet_36 : decode cX8_sheet 36 = .ok (.iload_n 2, 1) := by decide +kernel
theorem dX8_sheet_37 : decode cX8_sheet 37 = .ok (.ifCond .le 14, 3) := by decide +kernel
theorem dX8_sheet_40 : decode cX8_sheet 40 = .ok (.iload_n 3, 1) := by decide +kernel
theorem dX8_sheet_41 : decode cX8_sheet 41 = .ok (.ifCond .ge 10, 3) := by decide +kernel
theorem dX8_sheet_44 : decode cX8_sheet 44 = .ok (.aload_n 0, 1) := by decide +kernel
theorem dX8_sheet_45 : decode cX8_sheet 45 = .ok (.ldc 123, 2) := by decide +kernel
theorem dX8_sheet_47 : decode cX8_sheet 47 = .ok (.invokevirtual 101, 3) := by decide +kernel
theorem dX8_sheet_50 : decode cX8_sheet 50 = .ok (.ireturn, 1) := by decide +kernel
theorem dX8_sheet_51 : decode cX8_sheet 51 = .ok (.iload_n 2, 1) := by decide +kernel
theorem dX8_sheet_52 : decode cX8_sheet 52 = .ok (.ifCond .le 16, 3) := by decide +kernel
theorem dX8_sheet_55 : decode cX8_sheet 55 = .ok (.iload_n 3, 1) := by decide +kernel
theorem dX8_sheet_56 : decode cX8_sheet 56 = .ok (.bipush 24, 2) := by decide +kernel
theorem dX8_sheet_58 : decode cX8_sheet 58 = .ok (.if_icmp .le 10, 3) := by decide +kernel
theorem dX8_sheet_61 : decode cX8_sheet 61 = .ok (.aload_n 0, 1) := by decide +kernel
theorem dX8_sheet_62 : decode cX8_sheet 62 = .ok (.ldc 100, 2) := by decide +kernel
theorem dX8_sheet_64 : decode cX8_sheet 64 = .ok (.invokevirtual 101, 3) := by decide +kernel
theorem dX8_sheet_67 : decode cX8_sheet 67 = .ok (.ireturn, 1) := by decide +kernel
theorem dX8_sheet_68 : decode cX8_sheet 68 = .ok (.aload_n 0, 1) := by decide +kernel
theorem dX8_sheet_69 : decode cX8_sheet 69 = .ok (.getfield 22, 3) := by decide +kernel
theorem dX8_sheet_72 : decode cX8_sheet 72 = .ok (.iload_n 1, 1) := by decide +kernel
theorem dX8_sheet_73 : decode cX8_sheet 73 = .ok (.iload_n 2, 1) := by decide +kernel
theorem dX8_sheet_74 : decode cX8_sheet 74 = .ok (.iastore, 1) := by decide +kernel
theorem dX8_sheet_75 : decode cX8_sheet 75 = .ok (.aload_n 0, 1) := by decide +kernel
theorem dX8_sheet_76 : decode cX8_sheet 76 = .ok (.getfield 25, 3) := by decide +kernel
theorem dX8_sheet_79 : decode cX8_sheet 79 = .ok (.iload_n 1, 1) := by decide +kernel
theorem dX8_sheet_80 : decode cX8_sheet 80 = .ok (.iload_n 2, 1) := by decide +kernel
theorem dX8_sheet_81 : decode cX8_sheet 81 = .ok (.ifCond .ne 7, 3) := by decide +kernel
theorem dX8_sheet_84 : decode cX8_sheet 84 = .ok (.iconst 0, 1) := by decide +kernel
theorem dX8_sheet_85 : decode cX8_sheet 85 = .ok (.goto 4, 3) := by decide +kernel
theorem dX8_sheet_88 : decode cX8_sheet 88 = .ok (.iload_n 3, 1) := by decide +kernel
theorem dX8_sheet_89 : decode cX8_sheet 89 = .ok (.iastore, 1) := by decide +kernel
theorem dX8_sheet_90 : decode cX8_sheet 90 = .ok (.iconst 0, 1) := by decide +kernel
theorem dX8_sheet_91 : decode cX8_sheet 91 = .ok (.istore 4, 2) := by decide +kernel
theorem dX8_sheet_93 : decode cX8_sheet 93 = .ok (.iload 4, 2) := by decide +kernel
theorem dX8_sheet_95 : decode cX8_sheet 95 = .ok (.bipush 24, 2) := by decide +kernel
theorem dX8_sheet_97 : decode cX8_sheet 97 = .ok (.if_icmp .ge 22, 3) := by decide +kernel
theorem dX8_sheet_100 : decode cX8_sheet 100 = .ok (.aload_n 0, 1) := by decide +kernel
theorem dX8_sheet_101 : decode cX8_sheet 101 = .ok (.getfield 28, 3) := by decide +kernel
theorem dX8_sheet_104 : decode cX8_sheet 104 = .ok (.bipush 24, 2) := by decide +kernel
theorem dX8_sheet_106 : decode cX8_sheet 106 = .ok (.iload_n 1, 1) := by decide +kernel
theorem dX8_sheet_107 : decode cX8_sheet 107 = .ok (.imul, 1) := by decide +kernel
theorem dX8_sheet_108 : decode cX8_sheet 108 = .ok (.iload 4, 2) := by decide +kernel
theorem dX8_sheet_110 : decode cX8_sheet 110 = .ok (.iadd, 1) := by decide +kernel
theorem dX8_sheet_111 : decode cX8_sheet 111 = .ok (.iconst 0, 1) := by decide +kernel
theorem dX8_sheet_112 : decode cX8_sheet 112 = .ok (.iastore, 1) := by decide +kernel
theorem dX8_sheet_113 : decode cX8_sheet 113 = .ok (.iinc 4 1, 3) := by decide +kernel
theorem dX8_sheet_116 : decode cX8_sheet 116 = .ok (.goto (-23), 3) := by decide +kernel
theorem dX8_sheet_119 : decode cX8_sheet 119 = .ok (.iconst 1, 1) := by decide +kernel
theorem dX8_sheet_120 : decode cX8_sheet 120 = .ok (.ireturn, 1) := by decide +kernel
theorem dX8_notThere_0 : decode cX8_notThere 0 = .ok (.iload_n 1, 1) := by decide +kernel
theorem dX8_notThere_1 : decode cX8_notThere 1 = .ok (.invokestatic 227, 3) := by decide +kernel
theorem dX8_notThere_4 : decode cX8_notThere 4 = .ok (.ifCond .ne 8, 3) := by decide +kernel
theorem dX8_notThere_7 : decode cX8_notThere 7 = .ok (.ldc 100, 2) := by decide +kernel
theorem dX8_notThere_9 : decode cX8_notThere 9 = .ok (.goto 18, 3) := by decide +kernel
theorem dX8_notThere_12 : decode cX8_notThere 12 = .ok (.aload_n 0, 1) := by decide +kernel
theorem dX8_notThere_13 : decode cX8_notThere 13 = .ok (.getfield 22, 3) := by decide +kernel
theorem dX8_notThere_16 : decode cX8_notThere 16 = .ok (.iload_n 1, 1) := by decide +kernel
theorem dX8_notThere_17 : decode cX8_notThere 17 = .ok (.iaload, 1) := by decide +kernel
theorem dX8_notThere_18 : decode cX8_notThere 18 = .ok (.ifCond .ne 8, 3) := by decide +kernel
theorem dX8_notThere_21 : decode cX8_notThere 21 = .ok (.ldc 218, 2) := by decide +kernel
theorem dX8_notThere_23 : decode cX8_notThere 23 = .ok (.goto 4, 3) := by decide +kernel
theorem dX8_notThere_26 : decode cX8_notThere 26 = .ok (.iconst 0, 1) := by decide +kernel
theorem dX8_notThere_27 : decode cX8_notThere 27 = .ok (.ireturn, 1) := by decide +kernel
theorem dX8_put_0 : decode cX8_put 0 = .ok (.aload_n 0, 1) := by decide +kernel
theorem dX8_put_1 : decode cX8_put 1 = .ok (.iload_n 1, 1) := by decide +kernel
theorem dX8_put_2 : decode cX8_put 2 = .ok (.invokevirtual 273, 3) := by decide +kernel
theorem dX8_put_5 : decode cX8_put 5 = .ok (.istore 4, 2) := by decide +kernel
theorem dX8_put_7 : decode cX8_put 7 = .ok (.iload 4, 2) := by decide +kernel
theorem dX8_put_9 : decode cX8_put 9 = .ok (.ifCond .ne 24, 3) := by decide +kernel
theorem dX8_put_12 : decode cX8_put 12 = .ok (.iload_n 2, 1) := by decide +kernel
theorem dX8_put_13 : decode cX8_put 13 = .ok (.iconst 0, 1) := by decide +kernel
theorem dX8_put_14 : decode cX8_put 14 = .ok (.aload_n 0, 1) := by decide +kernel
theorem dX8_put_15 : decode cX8_put 15 = .ok (.getfield 25, 3) := by decide +kernel
theorem dX8_put_18 : decode cX8_put 18 = .ok (.iload_n 1, 1) := by decide +kernel
theorem dX8_put_19 : decode cX8_put 19 = .ok (.iaload, 1) := by decide +kernel
theorem dX8_put_20 : decode cX8_put 20 = .ok (.iconst 1, 1) := by decide +kernel
theorem dX8_put_21 : decode cX8_put 21 = .ok (.isub, 1) := by decide +kernel
theorem dX8_put_22 : decode cX8_put 22 = .ok (.invokestatic 51, 3) := by decide +kernel
theorem dX8_put_25 : decode cX8_put 25 = .ok (.ifCond .ne 8, 3) := by decide +kernel
theorem dX8_put_28 : decode cX8_put 28 = .ok (.ldc 100, 2) := by decide +kernel
theorem dX8_put_30 : decode cX8_put 30 = .ok (.goto 5, 3) := by decide +kernel
theorem dX8_put_33 : decode cX8_put 33 = .ok (.iload 4, 2) := by decide +kernel
theorem dX8_put_35 : decode cX8_put 35 = .ok (.istore 4, 2) := by decide +kernel
theorem dX8_put_37 : decode cX8_put 37 = .ok (.iload 4, 2) := by decide +kernel
theorem dX8_put_39 : decode cX8_put 39 = .ok (.ifCond .eq 10, 3) := by decide +kernel
theorem dX8_put_42 : decode cX8_put 42 = .ok (.aload_n 0, 1) := by decide +kernel
theorem dX8_put_43 : decode cX8_put 43 = .ok (.iload 4, 2) := by decide +kernel
theorem dX8_put_45 : decode cX8_put 45 = .ok (.invokevirtual 101, 3) := by decide +kernel
theorem dX8_put_48 : decode cX8_put 48 = .ok (.ireturn, 1) := by decide +kernel
theorem dX8_put_49 : decode cX8_put 49 = .ok (.aload_n 0, 1) := by decide +kernel
theorem dX8_put_50 : decode cX8_put 50 = .ok (.getfield 28, 3) := by decide +kernel
theorem dX8_put_53 : decode cX8_put 53 = .ok (.bipush 24, 2) := by decide +kernel
theorem dX8_put_55 : decode cX8_put 55 = .ok (.iload_n 1, 1) := by decide +kernel
theorem dX8_put_56 : decode cX8_put 56 = .ok (.imul, 1) := by decide +kernel
theorem dX8_put_57 : decode cX8_put 57 = .ok (.iload_n 2, 1) := by decide +kernel
theorem dX8_put_58 : decode cX8_put 58 = .ok (.iadd, 1) := by decide +kernel
theorem dX8_put_59 : decode cX8_put 59 = .ok (.aload_n 0, 1) := by decide +kernel
theorem dX8_put_60 : decode cX8_put 60 = .ok (.getfield 22, 3) := by decide +kernel
theorem dX8_put_63 : decode cX8_put 63 = .ok (.iload_n 1, 1) := by decide +kernel
theorem dX8_put_64 : decode cX8_put 64 = .ok (.iaload, 1) := by decide +kernel
theorem dX8_put_65 : decode cX8_put 65 = .ok (.bipush 8, 2) := by decide +kernel
theorem dX8_put_67 : decode cX8_put 67 = .ok (.if_icmp .ne 8, 3) := by decide +kernel
theorem dX8_put_70 : decode cX8_put 70 = .ok (.iload_n 3, 1) := by decide +kernel
theorem dX8_put_71 : decode cX8_put 71 = .ok (.i2b, 1) := by decide +kernel
theorem dX8_put_72 : decode cX8_put 72 = .ok (.goto 20, 3) := by decide +kernel
theorem dX8_put_75 : decode cX8_put 75 = .ok (.aload_n 0, 1) := by decide +kernel
theorem dX8_put_76 : decode cX8_put 76 = .ok (.getfield 22, 3) := by decide +kernel
theorem dX8_put_79 : decode cX8_put 79 = .ok (.iload_n 1, 1) := by decide +kernel
theorem dX8_put_80 : decode cX8_put 80 = .ok (.iaload, 1) := by decide +kernel
theorem dX8_put_81 : decode cX8_put 81 = .ok (.bipush 16, 2) := by decide +kernel
theorem dX8_put_83 : decode cX8_put 83 = .ok (.if_icmp .ne 8, 3) := by decide +kernel
theorem dX8_put_86 : decode cX8_put 86 = .ok (.iload_n 3, 1) := by decide +kernel
theorem dX8_put_87 : decode cX8_put 87 = .ok (.i2s, 1) := by decide +kernel
theorem dX8_put_88 : decode cX8_put 88 = .ok (.goto 4, 3) := by decide +kernel
theorem dX8_put_91 : decode cX8_put 91 = .ok (.iload_n 3, 1) := by decide +kernel
theorem dX8_put_92 : decode cX8_put 92 = .ok (.iastore, 1) := by decide +kernel
theorem dX8_put_93 : decode cX8_put 93 = .ok (.iconst 1, 1) := by decide +kernel
theorem dX8_put_94 : decode cX8_put 94 = .ok (.ireturn, 1) := by decide +kernel
theorem dX8_notMoved_0 : decode cX8_notMoved 0 = .ok (.iload_n 1, 1) := by decide +kernel
theorem dX8_notMoved_1 : decode cX8_notMoved 1 = .ok (.invokestatic 227, 3) := by decide +kernel
theorem dX8_notMoved_4 : decode cX8_notMoved 4 = .ok (.ifCond .eq 10, 3) := by decide +kernel
theorem dX8_notMoved_7 : decode cX8_notMoved 7 = .ok (.iload_n 3, 1) := by decide +kernel
theorem dX8_notMoved_8 : decode cX8_notMoved 8 = .ok (.invokestatic 227, 3) := by decide +kernel
theorem dX8_notMoved_11 : decode cX8_notMoved 11 = .ok (.ifCond .ne 6, 3) := by decide +kernel
theorem dX8_notMoved_14 : decode cX8_notMoved 14 = .ok (.ldc 100, 2) := by decide +kernel
theorem dX8_notMoved_16 : decode cX8_notMoved 16 = .ok (.ireturn, 1) := by decide +kernel
theorem dX8_notMoved_17 : decode cX8_notMoved 17 = .ok (.aload_n 0, 1) := by decide +kernel
theorem dX8_notMoved_18 : decode cX8_notMoved 18 = .ok (.getfield 22, 3) := by decide +kernel
theorem dX8_notMoved_21 : decode cX8_notMoved 21 = .ok (.iload_n 1, 1) := by decide +kernel
theorem dX8_notMoved_22 : decode cX8_notMoved 22 = .ok (.iaload, 1) := by decide +kernel
theorem dX8_notMoved_23 : decode cX8_notMoved 23 = .ok (.ifCond .eq 12, 3) := by decide +kernel
theorem dX8_notMoved_26 : decode cX8_notMoved 26 = .ok (.aload_n 0, 1) := by decide +kernel
theorem dX8_notMoved_27 : decode cX8_notMoved 27 = .ok (.getfield 22, 3) := by decide +kernel
theorem dX8_notMoved_30 : decode cX8_notMoved 30 = .ok (.iload_n 3, 1) := by decide +kernel
theorem dX8_notMoved_31 : decode cX8_notMoved 31 = .ok (.iaload, 1) := by decide +kernel
theorem dX8_notMoved_32 : decode cX8_notMoved 32 = .ok (.ifCond .ne 6, 3) := by decide +kernel
theorem dX8_notMoved_35 : decode cX8_notMoved 35 = .ok (.ldc 218, 2) := by decide +kernel
theorem dX8_notMoved_37 : decode cX8_notMoved 37 = .ok (.ireturn, 1) := by decide +kernel
theorem dX8_notMoved_38 : decode cX8_notMoved 38 = .ok (.aload_n 0, 1) := by decide +kernel
theorem dX8_notMoved_39 : decode cX8_notMoved 39 = .ok (.getfield 22, 3) := by decide +kernel
theorem dX8_notMoved_42 : decode cX8_notMoved 42 = .ok (.iload_n 1, 1) := by decide +kernel
theorem dX8_notMoved_43 : decode cX8_notMoved 43 = .ok (.iaload, 1) := by decide +kernel
theorem dX8_notMoved_44 : decode cX8_notMoved 44 = .ok (.aload_n 0, 1) := by decide +kernel
theorem dX8_notMoved_45 : decode cX8_notMoved 45 = .ok (.getfield 22, 3) := by decide +kernel
theorem dX8_notMoved_48 : decode cX8_notMoved 48 = .ok (.iload_n 3, 1) := by decide +kernel
theorem dX8_notMoved_49 : decode cX8_notMoved 49 = .ok (.iaload, 1) := by decide +kernel
theorem dX8_notMoved_50 : decode cX8_notMoved 50 = .ok (.if_icmp .eq 6, 3) := by decide +kernel
theorem dX8_notMoved_53 : decode cX8_notMoved 53 = .ok (.ldc 122, 2) := by decide +kernel
theorem dX8_notMoved_55 : decode cX8_notMoved 55 = .ok (.ireturn, 1) := by decide +kernel
theorem dX8_notMoved_56 : decode cX8_notMoved 56 = .ok (.iload 5, 2) := by decide +kernel
theorem dX8_notMoved_58 : decode cX8_notMoved 58 = .ok (.ifCond .lt 43, 3) := by decide +kernel
theorem dX8_notMoved_61 : decode cX8_notMoved 61 = .ok (.iload_n 2, 1) := by decide +kernel
theorem dX8_notMoved_62 : decode cX8_notMoved 62 = .ok (.ifCond .lt 39, 3) := by decide +kernel
theorem dX8_notMoved_65 : decode cX8_notMoved 65 = .ok (.iload 4, 2) := by decide +kernel
theorem dX8_notMoved_67 : decode cX8_notMoved 67 = .ok (.ifCond .lt 34, 3) := by decide +kernel
theorem dX8_notMoved_70 : decode cX8_notMoved 70 = .ok (.iload 5, 2) := by decide +kernel
theorem dX8_notMoved_72 : decode cX8_notMoved 72 = .ok (.aload_n 0, 1) := by decide +kernel
theorem dX8_notMoved_73 : decode cX8_notMoved 73 = .ok (.getfield 25, 3) := by decide +kernel
theorem dX8_notMoved_76 : decode cX8_notMoved 76 = .ok (.iload_n 1, 1) := by decide +kernel
theorem dX8_notMoved_77 : decode cX8_notMoved 77 = .ok (.iaload, 1) := by decide +kernel
theorem dX8_notMoved_78 : decode cX8_notMoved 78 = .ok (.iload_n 2, 1) := by decide +kernel
theorem dX8_notMoved_79 : decode cX8_notMoved 79 = .ok (.isub, 1) := by decide +kernel
theorem dX8_notMoved_80 : decode cX8_notMoved 80 = .ok (.if_icmp .gt 21, 3) := by decide +kernel
theorem dX8_notMoved_83 : decode cX8_notMoved 83 = .ok (.iload 5, 2) := by decide +kernel
theorem dX8_notMoved_85 : decode cX8_notMoved 85 = .ok (.aload_n 0, 1) := by decide +kernel
theorem dX8_notMoved_86 : decode cX8_notMoved 86 = .ok (.getfield 25, 3) := by decide +kernel
theorem dX8_notMoved_89 : decode cX8_notMoved 89 = .ok (.iload_n 3, 1) := by decide +kernel
theorem dX8_notMoved_90 : decode cX8_notMoved 90 = .ok (.iaload, 1) := by decide +kernel
theorem dX8_notMoved_91 : decode cX8_notMoved 91 = .ok (.iload 4, 2) := by decide +kernel
theorem dX8_notMoved_93 : decode cX8_notMoved 93 = .ok (.isub, 1) := by decide +kernel
theorem dX8_notMoved_94 : decode cX8_notMoved 94 = .ok (.if_icmp .gt 7, 3) := by decide +kernel
theorem dX8_notMoved_97 : decode cX8_notMoved 97 = .ok (.iconst 1, 1) := by decide +kernel
theorem dX8_notMoved_98 : decode cX8_notMoved 98 = .ok (.goto 4, 3) := by decide +kernel
theorem dX8_notMoved_101 : decode cX8_notMoved 101 = .ok (.iconst 0, 1) := by decide +kernel
theorem dX8_notMoved_102 : decode cX8_notMoved 102 = .ok (.istore 6, 2) := by decide +kernel
theorem dX8_notMoved_104 : decode cX8_notMoved 104 = .ok (.iload 6, 2) := by decide +kernel
theorem dX8_notMoved_106 : decode cX8_notMoved 106 = .ok (.ifCond .eq 7, 3) := by decide +kernel
theorem dX8_notMoved_109 : decode cX8_notMoved 109 = .ok (.iconst 0, 1) := by decide +kernel
theorem dX8_notMoved_110 : decode cX8_notMoved 110 = .ok (.goto 5, 3) := by decide +kernel
theorem dX8_notMoved_113 : decode cX8_notMoved 113 = .ok (.ldc 100, 2) := by decide +kernel
theorem dX8_notMoved_115 : decode cX8_notMoved 115 = .ok (.ireturn, 1) := by decide +kernel
theorem dX8_move_0 : decode cX8_move 0 = .ok (.aload_n 0, 1) := by decide +kernel
theorem dX8_move_1 : decode cX8_move 1 = .ok (.iload_n 1, 1) := by decide +kernel
theorem dX8_move_2 : decode cX8_move 2 = .ok (.iload_n 2, 1) := by decide +kernel
theorem dX8_move_3 : decode cX8_move 3 = .ok (.iload_n 3, 1) := by decide +kernel
theorem dX8_move_4 : decode cX8_move 4 = .ok (.iload 4, 2) := by decide +kernel
theorem dX8_move_6 : decode cX8_move 6 = .ok (.iload 5, 2) := by decide +kernel
theorem dX8_move_8 : decode cX8_move 8 = .ok (.invokevirtual 276, 3) := by decide +kernel
theorem dX8_move_11 : decode cX8_move 11 = .ok (.istore 6, 2) := by decide +kernel
theorem dX8_move_13 : decode cX8_move 13 = .ok (.iload 6, 2) := by decide +kernel
theorem dX8_move_15 : decode cX8_move 15 = .ok (.ifCond .eq 10, 3) := by decide +kernel
theorem dX8_move_18 : decode cX8_move 18 = .ok (.aload_n 0, 1) := by decide +kernel
theorem dX8_move_19 : decode cX8_move 19 = .ok (.iload 6, 2) := by decide +kernel
theorem dX8_move_21 : decode cX8_move 21 = .ok (.invokevirtual 101, 3) := by decide +kernel
theorem dX8_move_24 : decode cX8_move 24 = .ok (.ireturn, 1) := by decide +kernel
theorem dX8_move_25 : decode cX8_move 25 = .ok (.iconst 0, 1) := by decide +kernel
theorem dX8_move_26 : decode cX8_move 26 = .ok (.istore 7, 2) := by decide +kernel
theorem dX8_move_28 : decode cX8_move 28 = .ok (.iload 7, 2) := by decide +kernel
theorem dX8_move_30 : decode cX8_move 30 = .ok (.iload 5, 2) := by decide +kernel
theorem dX8_move_32 : decode cX8_move 32 = .ok (.if_icmp .ge 58, 3) := by decide +kernel
theorem dX8_move_35 : decode cX8_move 35 = .ok (.iload_n 2, 1) := by decide +kernel
theorem dX8_move_36 : decode cX8_move 36 = .ok (.iload 4, 2) := by decide +kernel
theorem dX8_move_38 : decode cX8_move 38 = .ok (.if_icmp .ge 13, 3) := by decide +kernel
theorem dX8_move_41 : decode cX8_move 41 = .ok (.iload 5, 2) := by decide +kernel
theorem dX8_move_43 : decode cX8_move 43 = .ok (.iconst 1, 1) := by decide +kernel
theorem dX8_move_44 : decode cX8_move 44 = .ok (.isub, 1) := by decide +kernel
theorem dX8_move_45 : decode cX8_move 45 = .ok (.iload 7, 2) := by decide +kernel
theorem dX8_move_47 : decode cX8_move 47 = .ok (.isub, 1) := by decide +kernel
theorem dX8_move_48 : decode cX8_move 48 = .ok (.goto 5, 3) := by decide +kernel
theorem dX8_move_51 : decode cX8_move 51 = .ok (.iload 7, 2) := by decide +kernel
theorem dX8_move_53 : decode cX8_move 53 = .ok (.istore 8, 2) := by decide +kernel
theorem dX8_move_55 : decode cX8_move 55 = .ok (.aload_n 0, 1) := by decide +kernel
theorem dX8_move_56 : decode cX8_move 56 = .ok (.getfield 28, 3) := by decide +kernel
theorem dX8_move_59 : decode cX8_move 59 = .ok (.bipush 24, 2) := by decide +kernel
theorem dX8_move_61 : decode cX8_move 61 = .ok (.iload_n 3, 1) := by decide +kernel
theorem dX8_move_62 : decode cX8_move 62 = .ok (.imul, 1) := by decide +kernel
theorem dX8_move_63 : decode cX8_move 63 = .ok (.iload 4, 2) := by decide +kernel
theorem dX8_move_65 : decode cX8_move 65 = .ok (.iadd, 1) := by decide +kernel
theorem dX8_move_66 : decode cX8_move 66 = .ok (.iload 8, 2) := by decide +kernel
theorem dX8_move_68 : decode cX8_move 68 = .ok (.iadd, 1) := by decide +kernel
theorem dX8_move_69 : decode cX8_move 69 = .ok (.aload_n 0, 1) := by decide +kernel
theorem dX8_move_70 : decode cX8_move 70 = .ok (.getfield 28, 3) := by decide +kernel
theorem dX8_move_73 : decode cX8_move 73 = .ok (.bipush 24, 2) := by decide +kernel
theorem dX8_move_75 : decode cX8_move 75 = .ok (.iload_n 1, 1) := by decide +kernel
theorem dX8_move_76 : decode cX8_move 76 = .ok (.imul, 1) := by decide +kernel
theorem dX8_move_77 : decode cX8_move 77 = .ok (.iload_n 2, 1) := by decide +kernel
theorem dX8_move_78 : decode cX8_move 78 = .ok (.iadd, 1) := by decide +kernel
theorem dX8_move_79 : decode cX8_move 79 = .ok (.iload 8, 2) := by decide +kernel
theorem dX8_move_81 : decode cX8_move 81 = .ok (.iadd, 1) := by decide +kernel
theorem dX8_move_82 : decode cX8_move 82 = .ok (.iaload, 1) := by decide +kernel
theorem dX8_move_83 : decode cX8_move 83 = .ok (.iastore, 1) := by decide +kernel
theorem dX8_move_84 : decode cX8_move 84 = .ok (.iinc 7 1, 3) := by decide +kernel
theorem dX8_move_87 : decode cX8_move 87 = .ok (.goto (-59), 3) := by decide +kernel
theorem dX8_move_90 : decode cX8_move 90 = .ok (.iload 5, 2) := by decide +kernel
theorem dX8_move_92 : decode cX8_move 92 = .ok (.ireturn, 1) := by decide +kernel
theorem dX8_sets_0 : decode cX8_sets 0 = .ok (.aload_n 0, 1) := by decide +kernel
theorem dX8_sets_1 : decode cX8_sets 1 = .ok (.iload_n 1, 1) := by decide +kernel
theorem dX8_sets_2 : decode cX8_sets 2 = .ok (.invokevirtual 106, 3) := by decide +kernel
theorem dX8_sets_5 : decode cX8_sets 5 = .ok (.ifCond .eq 10, 3) := by decide +kernel
theorem dX8_sets_8 : decode cX8_sets 8 = .ok (.iload_n 2, 1) := by decide +kernel
theorem dX8_sets_9 : decode cX8_sets 9 = .ok (.invokestatic 227, 3) := by decide +kernel
theorem dX8_sets_12 : decode cX8_sets 12 = .ok (.ifCond .ne 10, 3) := by decide +kernel
theorem dX8_sets_15 : decode cX8_sets 15 = .ok (.aload_n 0, 1) := by decide +kernel
theorem dX8_sets_16 : decode cX8_sets 16 = .ok (.ldc 100, 2) := by decide +kernel
theorem dX8_sets_18 : decode cX8_sets 18 = .ok (.invokevirtual 101, 3) := by decide +kernel
theorem dX8_sets_21 : decode cX8_sets 21 = .ok (.ireturn, 1) := by decide +kernel
theorem dX8_sets_22 : decode cX8_sets 22 = .ok (.aload_n 0, 1) := by decide +kernel
theorem dX8_sets_23 : decode cX8_sets 23 = .ok (.getfield 22, 3) := by decide +kernel
theorem dX8_sets_26 : decode cX8_sets 26 = .ok (.iload_n 2, 1) := by decide +kernel
theorem dX8_sets_27 : decode cX8_sets 27 = .ok (.iaload, 1) := by decide +kernel
theorem dX8_sets_28 : decode cX8_sets 28 = .ok (.ifCond .ne 10, 3) := by decide +kernel
theorem dX8_sets_31 : decode cX8_sets 31 = .ok (.aload_n 0, 1) := by decide +kernel
theorem dX8_sets_32 : decode cX8_sets 32 = .ok (.ldc 218, 2) := by decide +kernel
theorem dX8_sets_34 : decode cX8_sets 34 = .ok (.invokevirtual 101, 3) := by decide +kernel
theorem dX8_sets_37 : decode cX8_sets 37 = .ok (.ireturn, 1) := by decide +kernel
theorem dX8_sets_38 : decode cX8_sets 38 = .ok (.iconst 0, 1) := by decide +kernel
theorem dX8_sets_39 : decode cX8_sets 39 = .ok (.istore_n 3, 1) := by decide +kernel
theorem dX8_sets_40 : decode cX8_sets 40 = .ok (.iload_n 3, 1) := by decide +kernel
theorem dX8_sets_41 : decode cX8_sets 41 = .ok (.aload_n 0, 1) := by decide +kernel
theorem dX8_sets_42 : decode cX8_sets 42 = .ok (.getfield 25, 3) := by decide +kernel
theorem dX8_sets_45 : decode cX8_sets 45 = .ok (.iload_n 2, 1) := by decide +kernel
theorem dX8_sets_46 : decode cX8_sets 46 = .ok (.iaload, 1) := by decide +kernel
theorem dX8_sets_47 : decode cX8_sets 47 = .ok (.if_icmp .ge 51, 3) := by decide +kernel
theorem dX8_sets_50 : decode cX8_sets 50 = .ok (.iload_n 3, 1) := by decide +kernel
theorem dX8_sets_51 : decode cX8_sets 51 = .ok (.bipush 8, 2) := by decide +kernel
theorem dX8_sets_53 : decode cX8_sets 53 = .ok (.if_icmp .ge 45, 3) := by decide +kernel
theorem dX8_sets_56 : decode cX8_sets 56 = .ok (.aload_n 0, 1) := by decide +kernel
theorem dX8_sets_57 : decode cX8_sets 57 = .ok (.getfield 28, 3) := by decide +kernel
theorem dX8_sets_60 : decode cX8_sets 60 = .ok (.bipush 24, 2) := by decide +kernel
theorem dX8_sets_62 : decode cX8_sets 62 = .ok (.iload_n 2, 1) := by decide +kernel
theorem dX8_sets_63 : decode cX8_sets 63 = .ok (.imul, 1) := by decide +kernel
theorem dX8_sets_64 : decode cX8_sets 64 = .ok (.iload_n 3, 1) := by decide +kernel
theorem dX8_sets_65 : decode cX8_sets 65 = .ok (.iadd, 1) := by decide +kernel
theorem dX8_sets_66 : decode cX8_sets 66 = .ok (.iaload, 1) := by decide +kernel
theorem dX8_sets_67 : decode cX8_sets 67 = .ok (.invokestatic 109, 3) := by decide +kernel
theorem dX8_sets_70 : decode cX8_sets 70 = .ok (.ifCond .eq 28, 3) := by decide +kernel
theorem dX8_sets_73 : decode cX8_sets 73 = .ok (.aload_n 0, 1) := by decide +kernel
theorem dX8_sets_74 : decode cX8_sets 74 = .ok (.iload_n 1, 1) := by decide +kernel
theorem dX8_sets_75 : decode cX8_sets 75 = .ok (.iconst 5, 1) := by decide +kernel
theorem dX8_sets_76 : decode cX8_sets 76 = .ok (.iload_n 3, 1) := by decide +kernel
theorem dX8_sets_77 : decode cX8_sets 77 = .ok (.iadd, 1) := by decide +kernel
theorem dX8_sets_78 : decode cX8_sets 78 = .ok (.aload_n 0, 1) := by decide +kernel
theorem dX8_sets_79 : decode cX8_sets 79 = .ok (.getfield 28, 3) := by decide +kernel
theorem dX8_sets_82 : decode cX8_sets 82 = .ok (.bipush 24, 2) := by decide +kernel
theorem dX8_sets_84 : decode cX8_sets 84 = .ok (.iload_n 2, 1) := by decide +kernel
theorem dX8_sets_85 : decode cX8_sets 85 = .ok (.imul, 1) := by decide +kernel
theorem dX8_sets_86 : decode cX8_sets 86 = .ok (.iload_n 3, 1) := by decide +kernel
theorem dX8_sets_87 : decode cX8_sets 87 = .ok (.iadd, 1) := by decide +kernel
theorem dX8_sets_88 : decode cX8_sets 88 = .ok (.iaload, 1) := by decide +kernel
theorem dX8_sets_89 : decode cX8_sets 89 = .ok (.invokevirtual 65, 3) := by decide +kernel
theorem dX8_sets_92 : decode cX8_sets 92 = .ok (.iinc 3 1, 3) := by decide +kernel
theorem dX8_sets_95 : decode cX8_sets 95 = .ok (.goto (-55), 3) := by decide +kernel
theorem dX8_sets_98 : decode cX8_sets 98 = .ok (.aload_n 0, 1) := by decide +kernel
theorem dX8_sets_99 : decode cX8_sets 99 = .ok (.iload_n 1, 1) := by decide +kernel
theorem dX8_sets_100 : decode cX8_sets 100 = .ok (.iconst 3, 1) := by decide +kernel
theorem dX8_sets_101 : decode cX8_sets 101 = .ok (.iload_n 3, 1) := by decide +kernel
theorem dX8_sets_102 : decode cX8_sets 102 = .ok (.invokevirtual 65, 3) := by decide +kernel
theorem dX8_sets_105 : decode cX8_sets 105 = .ok (.iload_n 3, 1) := by decide +kernel
theorem dX8_sets_106 : decode cX8_sets 106 = .ok (.ireturn, 1) := by decide +kernel
theorem dX8_judge_0 : decode cX8_judge 0 = .ok (.aload_n 0, 1) := by decide +kernel
theorem dX8_judge_1 : decode cX8_judge 1 = .ok (.iload_n 1, 1) := by decide +kernel
theorem dX8_judge_2 : decode cX8_judge 2 = .ok (.invokevirtual 273, 3) := by decide +kernel
theorem dX8_judge_5 : decode cX8_judge 5 = .ok (.istore_n 2, 1) := by decide +kernel
theorem dX8_judge_6 : decode cX8_judge 6 = .ok (.iload_n 2, 1) := by decide +kernel
theorem dX8_judge_7 : decode cX8_judge 7 = .ok (.ifCond .eq 9, 3) := by decide +kernel
theorem dX8_judge_10 : decode cX8_judge 10 = .ok (.aload_n 0, 1) := by decide +kernel
theorem dX8_judge_11 : decode cX8_judge 11 = .ok (.iload_n 2, 1) := by decide +kernel
theorem dX8_judge_12 : decode cX8_judge 12 = .ok (.invokevirtual 101, 3) := by decide +kernel
theorem dX8_judge_15 : decode cX8_judge 15 = .ok (.ireturn, 1) := by decide +kernel
theorem dX8_judge_16 : decode cX8_judge 16 = .ok (.iconst 0, 1) := by decide +kernel
theorem dX8_judge_17 : decode cX8_judge 17 = .ok (.istore_n 3, 1) := by decide +kernel
theorem dX8_judge_18 : decode cX8_judge 18 = .ok (.iload_n 3, 1) := by decide +kernel
theorem dX8_judge_19 : decode cX8_judge 19 = .ok (.aload_n 0, 1) := by decide +kernel
theorem dX8_judge_20 : decode cX8_judge 20 = .ok (.getfield 25, 3) := by decide +kernel
theorem dX8_judge_23 : decode cX8_judge 23 = .ok (.iload_n 1, 1) := by decide +kernel
theorem dX8_judge_24 : decode cX8_judge 24 = .ok (.iaload, 1) := by decide +kernel
theorem dX8_judge_25 : decode cX8_judge 25 = .ok (.if_icmp .ge 48, 3) := by decide +kernel
theorem dX8_judge_28 : decode cX8_judge 28 = .ok (.iload_n 3, 1) := by decide +kernel
theorem dX8_judge_29 : decode cX8_judge 29 = .ok (.aload_n 0, 1) := by decide +kernel
theorem dX8_judge_30 : decode cX8_judge 30 = .ok (.getfield 9, 3) := by decide +kernel
theorem dX8_judge_33 : decode cX8_judge 33 = .ok (.iconst 3, 1) := by decide +kernel
theorem dX8_judge_34 : decode cX8_judge 34 = .ok (.iaload, 1) := by decide +kernel
theorem dX8_judge_35 : decode cX8_judge 35 = .ok (.if_icmp .ge 38, 3) := by decide +kernel
theorem dX8_judge_38 : decode cX8_judge 38 = .ok (.aload_n 0, 1) := by decide +kernel
theorem dX8_judge_39 : decode cX8_judge 39 = .ok (.getfield 28, 3) := by decide +kernel
theorem dX8_judge_42 : decode cX8_judge 42 = .ok (.bipush 24, 2) := by decide +kernel
theorem dX8_judge_44 : decode cX8_judge 44 = .ok (.iload_n 1, 1) := by decide +kernel
theorem dX8_judge_45 : decode cX8_judge 45 = .ok (.imul, 1) := by decide +kernel
theorem dX8_judge_46 : decode cX8_judge 46 = .ok (.iload_n 3, 1) := by decide +kernel
theorem dX8_judge_47 : decode cX8_judge 47 = .ok (.iadd, 1) := by decide +kernel
theorem dX8_judge_48 : decode cX8_judge 48 = .ok (.iaload, 1) := by decide +kernel
theorem dX8_judge_49 : decode cX8_judge 49 = .ok (.aload_n 0, 1) := by decide +kernel
theorem dX8_judge_50 : decode cX8_judge 50 = .ok (.aload_n 0, 1) := by decide +kernel
theorem dX8_judge_51 : decode cX8_judge 51 = .ok (.getfield 9, 3) := by decide +kernel
theorem dX8_judge_54 : decode cX8_judge 54 = .ok (.bipush 58, 2) := by decide +kernel
theorem dX8_judge_56 : decode cX8_judge 56 = .ok (.iconst 2, 1) := by decide +kernel
theorem dX8_judge_57 : decode cX8_judge 57 = .ok (.iload_n 3, 1) := by decide +kernel
theorem dX8_judge_58 : decode cX8_judge 58 = .ok (.imul, 1) := by decide +kernel
theorem dX8_judge_59 : decode cX8_judge 59 = .ok (.iadd, 1) := by decide +kernel
theorem dX8_judge_60 : decode cX8_judge 60 = .ok (.iaload, 1) := by decide +kernel
theorem dX8_judge_61 : decode cX8_judge 61 = .ok (.invokevirtual 127, 3) := by decide +kernel
theorem dX8_judge_64 : decode cX8_judge 64 = .ok (.if_icmp .ne 9, 3) := by decide +kernel
theorem dX8_judge_67 : decode cX8_judge 67 = .ok (.iinc 3 1, 3) := by decide +kernel
theorem dX8_judge_70 : decode cX8_judge 70 = .ok (.goto (-52), 3) := by decide +kernel
theorem dX8_judge_73 : decode cX8_judge 73 = .ok (.iload_n 3, 1) := by decide +kernel
theorem dX8_judge_74 : decode cX8_judge 74 = .ok (.ireturn, 1) := by decide +kernel
theorem dX8_image_0 : decode cX8_image 0 = .ok (.aload_n 0, 1) := by decide +kernel
theorem dX8_image_1 : decode cX8_image 1 = .ok (.getfield 9, 3) := by decide +kernel
theorem dX8_image_4 : decode cX8_image 4 = .ok (.aload_n 0, 1) := by decide +kernel
theorem dX8_image_5 : decode cX8_image 5 = .ok (.getfield 13, 3) := by decide +kernel
theorem dX8_image_8 : decode cX8_image 8 = .ok (.invokestatic 47, 3) := by decide +kernel
theorem dX8_image_11 : decode cX8_image 11 = .ok (.aload_n 0, 1) := by decide +kernel
theorem dX8_image_12 : decode cX8_image 12 = .ok (.dup, 1) := by decide +kernel
theorem dX8_image_13 : decode cX8_image 13 = .ok (.getfield 280, 3) := by decide +kernel
theorem dX8_image_16 : decode cX8_image 16 = .ok (.iconst 1, 1) := by decide +kernel
theorem dX8_image_17 : decode cX8_image 17 = .ok (.iadd, 1) := by decide +kernel
theorem dX8_image_18 : decode cX8_image 18 = .ok (.putfield 280, 3) := by decide +kernel
theorem dX8_image_21 : decode cX8_image 21 = .ok (.aload_n 0, 1) := by decide +kernel
theorem dX8_image_22 : decode cX8_image 22 = .ok (.getfield 280, 3) := by decide +kernel
theorem dX8_image_25 : decode cX8_image 25 = .ok (.ireturn, 1) := by decide +kernel
theorem dX8_restore_0 : decode cX8_restore 0 = .ok (.aload_n 0, 1) := by decide +kernel
theorem dX8_restore_1 : decode cX8_restore 1 = .ok (.getfield 280, 3) := by decide +kernel
theorem dX8_restore_4 : decode cX8_restore 4 = .ok (.ifCond .ne 10, 3) := by decide +kernel
theorem dX8_restore_7 : decode cX8_restore 7 = .ok (.aload_n 0, 1) := by decide +kernel
theorem dX8_restore_8 : decode cX8_restore 8 = .ok (.ldc 218, 2) := by decide +kernel
theorem dX8_restore_10 : decode cX8_restore 10 = .ok (.invokevirtual 101, 3) := by decide +kernel
theorem dX8_restore_13 : decode cX8_restore 13 = .ok (.ireturn, 1) := by decide +kernel
theorem dX8_restore_14 : decode cX8_restore 14 = .ok (.aload_n 0, 1) := by decide +kernel
theorem dX8_restore_15 : decode cX8_restore 15 = .ok (.getfield 13, 3) := by decide +kernel
theorem dX8_restore_18 : decode cX8_restore 18 = .ok (.aload_n 0, 1) := by decide +kernel
theorem dX8_restore_19 : decode cX8_restore 19 = .ok (.getfield 9, 3) := by decide +kernel
theorem dX8_restore_22 : decode cX8_restore 22 = .ok (.invokestatic 47, 3) := by decide +kernel
theorem dX8_restore_25 : decode cX8_restore 25 = .ok (.aload_n 0, 1) := by decide +kernel
theorem dX8_restore_26 : decode cX8_restore 26 = .ok (.getfield 9, 3) := by decide +kernel
theorem dX8_restore_29 : decode cX8_restore 29 = .ok (.iconst 0, 1) := by decide +kernel
theorem dX8_restore_30 : decode cX8_restore 30 = .ok (.iaload, 1) := by decide +kernel
theorem dX8_restore_31 : decode cX8_restore 31 = .ok (.ireturn, 1) := by decide +kernel
theorem dX8_tell_0 : decode cX8_tell 0 = .ok (.aload_n 0, 1) := by decide +kernel
theorem dX8_tell_1 : decode cX8_tell 1 = .ok (.getfield 9, 3) := by decide +kernel
theorem dX8_tell_4 : decode cX8_tell 4 = .ok (.iconst 5, 1) := by decide +kernel
theorem dX8_tell_5 : decode cX8_tell 5 = .ok (.iaload, 1) := by decide +kernel
theorem dX8_tell_6 : decode cX8_tell 6 = .ok (.bipush 24, 2) := by decide +kernel
theorem dX8_tell_8 : decode cX8_tell 8 = .ok (.if_icmp .ne 10, 3) := by decide +kernel
theorem dX8_tell_11 : decode cX8_tell 11 = .ok (.aload_n 0, 1) := by decide +kernel
theorem dX8_tell_12 : decode cX8_tell 12 = .ok (.ldc 105, 2) := by decide +kernel
theorem dX8_tell_14 : decode cX8_tell 14 = .ok (.invokevirtual 101, 3) := by decide +kernel
theorem dX8_tell_17 : decode cX8_tell 17 = .ok (.ireturn, 1) := by decide +kernel
theorem dX8_tell_18 : decode cX8_tell 18 = .ok (.aload_n 0, 1) := by decide +kernel
theorem dX8_tell_19 : decode cX8_tell 19 = .ok (.getfield 9, 3) := by decide +kernel
theorem dX8_tell_22 : decode cX8_tell 22 = .ok (.sipush 258, 3) := by decide +kernel
theorem dX8_tell_25 : decode cX8_tell 25 = .ok (.aload_n 0, 1) := by decide +kernel
theorem dX8_tell_26 : decode cX8_tell 26 = .ok (.getfield 9, 3) := by decide +kernel
theorem dX8_tell_29 : decode cX8_tell 29 = .ok (.iconst 5, 1) := by decide +kernel
theorem dX8_tell_30 : decode cX8_tell 30 = .ok (.iaload, 1) := by decide +kernel
theorem dX8_tell_31 : decode cX8_tell 31 = .ok (.iadd, 1) := by decide +kernel
theorem dX8_tell_32 : decode cX8_tell 32 = .ok (.iload_n 1, 1) := by decide +kernel
theorem dX8_tell_33 : decode cX8_tell 33 = .ok (.iastore, 1) := by decide +kernel
theorem dX8_tell_34 : decode cX8_tell 34 = .ok (.aload_n 0, 1) := by decide +kernel
theorem dX8_tell_35 : decode cX8_tell 35 = .ok (.getfield 9, 3) := by decide +kernel
theorem dX8_tell_38 : decode cX8_tell 38 = .ok (.iconst 5, 1) := by decide +kernel
theorem dX8_tell_39 : decode cX8_tell 39 = .ok (.dup2, 1) := by decide +kernel
theorem dX8_tell_40 : decode cX8_tell 40 = .ok (.iaload, 1) := by decide +kernel
theorem dX8_tell_41 : decode cX8_tell 41 = .ok (.iconst 1, 1) := by decide +kernel
theorem dX8_tell_42 : decode cX8_tell 42 = .ok (.iadd, 1) := by decide +kernel
theorem dX8_tell_43 : decode cX8_tell 43 = .ok (.iastore, 1) := by decide +kernel
theorem dX8_tell_44 : decode cX8_tell 44 = .ok (.aload_n 0, 1) := by decide +kernel
theorem dX8_tell_45 : decode cX8_tell 45 = .ok (.getfield 9, 3) := by decide +kernel
theorem dX8_tell_48 : decode cX8_tell 48 = .ok (.iconst 5, 1) := by decide +kernel
theorem dX8_tell_49 : decode cX8_tell 49 = .ok (.iaload, 1) := by decide +kernel
theorem dX8_tell_50 : decode cX8_tell 50 = .ok (.ireturn, 1) := by decide +kernel
theorem dX8_check_0 : decode cX8_check 0 = .ok (.aload_n 0, 1) := by decide +kernel
theorem dX8_check_1 : decode cX8_check 1 = .ok (.getfield 9, 3) := by decide +kernel
theorem dX8_check_4 : decode cX8_check 4 = .ok (.iconst 5, 1) := by decide +kernel
theorem dX8_check_5 : decode cX8_check 5 = .ok (.iaload, 1) := by decide +kernel
theorem dX8_check_6 : decode cX8_check 6 = .ok (.istore_n 1, 1) := by decide +kernel
theorem dX8_check_7 : decode cX8_check 7 = .ok (.aload_n 0, 1) := by decide +kernel
theorem dX8_check_8 : decode cX8_check 8 = .ok (.getfield 9, 3) := by decide +kernel
theorem dX8_check_11 : decode cX8_check 11 = .ok (.iconst 5, 1) := by decide +kernel
theorem dX8_check_12 : decode cX8_check 12 = .ok (.iconst 0, 1) := by decide +kernel
theorem dX8_check_13 : decode cX8_check 13 = .ok (.iastore, 1) := by decide +kernel
theorem dX8_check_14 : decode cX8_check 14 = .ok (.iconst 0, 1) := by decide +kernel
theorem dX8_check_15 : decode cX8_check 15 = .ok (.istore_n 2, 1) := by decide +kernel
theorem dX8_check_16 : decode cX8_check 16 = .ok (.iload_n 2, 1) := by decide +kernel
theorem dX8_check_17 : decode cX8_check 17 = .ok (.iload_n 1, 1) := by decide +kernel
theorem dX8_check_18 : decode cX8_check 18 = .ok (.if_icmp .ge 40, 3) := by decide +kernel
theorem dX8_check_21 : decode cX8_check 21 = .ok (.aload_n 0, 1) := by decide +kernel
theorem dX8_check_22 : decode cX8_check 22 = .ok (.iload_n 2, 1) := by decide +kernel
theorem dX8_check_23 : decode cX8_check 23 = .ok (.invokevirtual 106, 3) := by decide +kernel
theorem dX8_check_26 : decode cX8_check 26 = .ok (.ifCond .eq 22, 3) := by decide +kernel
theorem dX8_check_29 : decode cX8_check 29 = .ok (.aload_n 0, 1) := by decide +kernel
theorem dX8_check_30 : decode cX8_check 30 = .ok (.getfield 9, 3) := by decide +kernel
theorem dX8_check_33 : decode cX8_check 33 = .ok (.sipush 258, 3) := by decide +kernel
theorem dX8_check_36 : decode cX8_check 36 = .ok (.iload_n 2, 1) := by decide +kernel
theorem dX8_check_37 : decode cX8_check 37 = .ok (.iadd, 1) := by decide +kernel
theorem dX8_check_38 : decode cX8_check 38 = .ok (.iaload, 1) := by decide +kernel
theorem dX8_check_39 : decode cX8_check 39 = .ok (.aload_n 0, 1) := by decide +kernel
theorem dX8_check_40 : decode cX8_check 40 = .ok (.iload_n 2, 1) := by decide +kernel
theorem dX8_check_41 : decode cX8_check 41 = .ok (.iconst 4, 1) := by decide +kernel
theorem dX8_check_42 : decode cX8_check 42 = .ok (.invokevirtual 55, 3) := by decide +kernel
theorem dX8_check_45 : decode cX8_check 45 = .ok (.if_icmp .eq 7, 3) := by decide +kernel
theorem dX8_check_48 : decode cX8_check 48 = .ok (.iconst 1, 1) := by decide +kernel
theorem dX8_check_49 : decode cX8_check 49 = .ok (.iload_n 2, 1) := by decide +kernel
theorem dX8_check_50 : decode cX8_check 50 = .ok (.iadd, 1) := by decide +kernel
theorem dX8_check_51 : decode cX8_check 51 = .ok (.ireturn, 1) := by decide +kernel
theorem dX8_check_52 : decode cX8_check 52 = .ok (.iinc 2 1, 3) := by decide +kernel
theorem dX8_check_55 : decode cX8_check 55 = .ok (.goto (-39), 3) := by decide +kernel
theorem dX8_check_58 : decode cX8_check 58 = .ok (.iconst 0, 1) := by decide +kernel
theorem dX8_check_59 : decode cX8_check 59 = .ok (.ireturn, 1) := by decide +kernel
theorem dX8_count_0 : decode cX8_count 0 = .ok (.iload_n 1, 1) := by decide +kernel
theorem dX8_count_1 : decode cX8_count 1 = .ok (.tableswitch 113 0 8 #[51, 58, 65, 72, 79, 87, 94, 101, 106], 51) := by decide +kernel
theorem dX8_count_52 : decode cX8_count 52 = .ok (.aload_n 0, 1) := by decide +kernel
theorem dX8_count_53 : decode cX8_count 53 = .ok (.getfield 9, 3) := by decide +kernel
theorem dX8_count_56 : decode cX8_count 56 = .ok (.iconst 2, 1) := by decide +kernel
theorem dX8_count_57 : decode cX8_count 57 = .ok (.iaload, 1) := by decide +kernel
theorem dX8_count_58 : decode cX8_count 58 = .ok (.ireturn, 1) := by decide +kernel
theorem dX8_count_59 : decode cX8_count 59 = .ok (.aload_n 0, 1) := by decide +kernel
theorem dX8_count_60 : decode cX8_count 60 = .ok (.getfield 9, 3) := by decide +kernel
theorem dX8_count_63 : decode cX8_count 63 = .ok (.iconst 3, 1) := by decide +kernel
theorem dX8_count_64 : decode cX8_count 64 = .ok (.iaload, 1) := by decide +kernel
theorem dX8_count_65 : decode cX8_count 65 = .ok (.ireturn, 1) := by decide +kernel
theorem dX8_count_66 : decode cX8_count 66 = .ok (.aload_n 0, 1) := by decide +kernel
theorem dX8_count_67 : decode cX8_count 67 = .ok (.getfield 9, 3) := by decide +kernel
theorem dX8_count_70 : decode cX8_count 70 = .ok (.iconst 0, 1) := by decide +kernel
theorem dX8_count_71 : decode cX8_count 71 = .ok (.iaload, 1) := by decide +kernel
theorem dX8_count_72 : decode cX8_count 72 = .ok (.ireturn, 1) := by decide +kernel
theorem dX8_count_73 : decode cX8_count 73 = .ok (.aload_n 0, 1) := by decide +kernel
theorem dX8_count_74 : decode cX8_count 74 = .ok (.bipush 70, 2) := by decide +kernel
theorem dX8_count_76 : decode cX8_count 76 = .ok (.invokevirtual 209, 3) := by decide +kernel
theorem dX8_count_79 : decode cX8_count 79 = .ok (.ireturn, 1) := by decide +kernel
theorem dX8_count_80 : decode cX8_count 80 = .ok (.aload_n 0, 1) := by decide +kernel
theorem dX8_count_81 : decode cX8_count 81 = .ok (.sipush 134, 3) := by decide +kernel
theorem dX8_count_84 : decode cX8_count 84 = .ok (.invokevirtual 209, 3) := by decide +kernel
theorem dX8_count_87 : decode cX8_count 87 = .ok (.ireturn, 1) := by decide +kernel
theorem dX8_count_88 : decode cX8_count 88 = .ok (.aload_n 0, 1) := by decide +kernel
theorem dX8_count_89 : decode cX8_count 89 = .ok (.getfield 9, 3) := by decide +kernel
theorem dX8_count_92 : decode cX8_count 92 = .ok (.iconst 4, 1) := by decide +kernel
theorem dX8_count_93 : decode cX8_count 93 = .ok (.iaload, 1) := by decide +kernel
theorem dX8_count_94 : decode cX8_count 94 = .ok (.ireturn, 1) := by decide +kernel
theorem dX8_count_95 : decode cX8_count 95 = .ok (.aload_n 0, 1) := by decide +kernel
theorem dX8_count_96 : decode cX8_count 96 = .ok (.getfield 9, 3) := by decide +kernel
theorem dX8_count_99 : decode cX8_count 99 = .ok (.iconst 5, 1) := by decide +kernel
theorem dX8_count_100 : decode cX8_count 100 = .ok (.iaload, 1) := by decide +kernel
theorem dX8_count_101 : decode cX8_count 101 = .ok (.ireturn, 1) := by decide +kernel
theorem dX8_count_102 : decode cX8_count 102 = .ok (.aload_n 0, 1) := by decide +kernel
theorem dX8_count_103 : decode cX8_count 103 = .ok (.getfield 233, 3) := by decide +kernel
theorem dX8_count_106 : decode cX8_count 106 = .ok (.ireturn, 1) := by decide +kernel
theorem dX8_count_107 : decode cX8_count 107 = .ok (.aload_n 0, 1) := by decide +kernel
theorem dX8_count_108 : decode cX8_count 108 = .ok (.getfield 9, 3) := by decide +kernel
theorem dX8_count_111 : decode cX8_count 111 = .ok (.iconst 1, 1) := by decide +kernel
theorem dX8_count_112 : decode cX8_count 112 = .ok (.iaload, 1) := by decide +kernel
theorem dX8_count_113 : decode cX8_count 113 = .ok (.ireturn, 1) := by decide +kernel
theorem dX8_count_114 : decode cX8_count 114 = .ok (.aload_n 0, 1) := by decide +kernel
theorem dX8_count_115 : decode cX8_count 115 = .ok (.ldc 100, 2) := by decide +kernel
theorem dX8_count_117 : decode cX8_count 117 = .ok (.invokevirtual 101, 3) := by decide +kernel
theorem dX8_count_120 : decode cX8_count 120 = .ok (.ireturn, 1) := by decide +kernel
theorem dX8_told_0 : decode cX8_told 0 = .ok (.iload_n 1, 1) := by decide +kernel
theorem dX8_told_1 : decode cX8_told 1 = .ok (.iconst 1, 1) := by decide +kernel
theorem dX8_told_2 : decode cX8_told 2 = .ok (.bipush 6, 2) := by decide +kernel
theorem dX8_told_4 : decode cX8_told 4 = .ok (.invokestatic 51, 3) := by decide +kernel
theorem dX8_told_7 : decode cX8_told 7 = .ok (.ifCond .eq 12, 3) := by decide +kernel
theorem dX8_told_10 : decode cX8_told 10 = .ok (.aload_n 0, 1) := by decide +kernel
theorem dX8_told_11 : decode cX8_told 11 = .ok (.getfield 19, 3) := by decide +kernel
theorem dX8_told_14 : decode cX8_told 14 = .ok (.iload_n 1, 1) := by decide +kernel
theorem dX8_told_15 : decode cX8_told 15 = .ok (.iaload, 1) := by decide +kernel
theorem dX8_told_16 : decode cX8_told 16 = .ok (.goto 9, 3) := by decide +kernel
theorem dX8_told_19 : decode cX8_told 19 = .ok (.aload_n 0, 1) := by decide +kernel
theorem dX8_told_20 : decode cX8_told 20 = .ok (.ldc 100, 2) := by decide +kernel
theorem dX8_told_22 : decode cX8_told 22 = .ok (.invokevirtual 101, 3) := by decide +kernel
theorem dX8_told_25 : decode cX8_told 25 = .ok (.ireturn, 1) := by decide +kernel
