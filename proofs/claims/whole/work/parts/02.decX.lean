theorem dX0_init_0 : decode cX0_init 0 = .ok (.aload_n 0, 1) := by decide +kernel
theorem dX0_init_1 : decode cX0_init 1 = .ok (.invokespecial 3, 3) := by decide +kernel
theorem dX0_init_4 : decode cX0_init 4 = .ok (.aload_n 0, 1) := by decide +kernel
theorem dX0_init_5 : decode cX0_init 5 = .ok (.bipush 8, 2) := by decide +kernel
theorem dX0_init_7 : decode cX0_init 7 = .ok (.newarray .int, 2) := by decide +kernel
theorem dX0_init_9 : decode cX0_init 9 = .ok (.putfield 11, 3) := by decide +kernel
theorem dX0_init_12 : decode cX0_init 12 = .ok (.return_, 1) := by decide +kernel
theorem dX0_begin_0 : decode cX0_begin 0 = .ok (.aload_n 0, 1) := by decide +kernel
theorem dX0_begin_1 : decode cX0_begin 1 = .ok (.iload_n 1, 1) := by decide +kernel
theorem dX0_begin_2 : decode cX0_begin 2 = .ok (.bipush 10, 2) := by decide +kernel
theorem dX0_begin_4 : decode cX0_begin 4 = .ok (.idiv, 1) := by decide +kernel
theorem dX0_begin_5 : decode cX0_begin 5 = .ok (.putfield 15, 3) := by decide +kernel
theorem dX0_begin_8 : decode cX0_begin 8 = .ok (.aload_n 0, 1) := by decide +kernel
theorem dX0_begin_9 : decode cX0_begin 9 = .ok (.iload_n 1, 1) := by decide +kernel
theorem dX0_begin_10 : decode cX0_begin 10 = .ok (.bipush 10, 2) := by decide +kernel
theorem dX0_begin_12 : decode cX0_begin 12 = .ok (.irem, 1) := by decide +kernel
theorem dX0_begin_13 : decode cX0_begin 13 = .ok (.putfield 19, 3) := by decide +kernel
theorem dX0_begin_16 : decode cX0_begin 16 = .ok (.aload_n 0, 1) := by decide +kernel
theorem dX0_begin_17 : decode cX0_begin 17 = .ok (.iload_n 2, 1) := by decide +kernel
theorem dX0_begin_18 : decode cX0_begin 18 = .ok (.putfield 22, 3) := by decide +kernel
theorem dX0_begin_21 : decode cX0_begin 21 = .ok (.aload_n 0, 1) := by decide +kernel
theorem dX0_begin_22 : decode cX0_begin 22 = .ok (.iconst 0, 1) := by decide +kernel
theorem dX0_begin_23 : decode cX0_begin 23 = .ok (.putfield 25, 3) := by decide +kernel
theorem dX0_begin_26 : decode cX0_begin 26 = .ok (.aload_n 0, 1) := by decide +kernel
theorem dX0_begin_27 : decode cX0_begin 27 = .ok (.iconst 0, 1) := by decide +kernel
theorem dX0_begin_28 : decode cX0_begin 28 = .ok (.putfield 28, 3) := by decide +kernel
theorem dX0_begin_31 : decode cX0_begin 31 = .ok (.return_, 1) := by decide +kernel
theorem dX0_takeAll_0 : decode cX0_takeAll 0 = .ok (.aload_n 1, 1) := by decide +kernel
theorem dX0_takeAll_1 : decode cX0_takeAll 1 = .ok (.getfield 11, 3) := by decide +kernel
theorem dX0_takeAll_4 : decode cX0_takeAll 4 = .ok (.iconst 0, 1) := by decide +kernel
theorem dX0_takeAll_5 : decode cX0_takeAll 5 = .ok (.aload_n 0, 1) := by decide +kernel
theorem dX0_takeAll_6 : decode cX0_takeAll 6 = .ok (.getfield 11, 3) := by decide +kernel
theorem dX0_takeAll_9 : decode cX0_takeAll 9 = .ok (.iconst 0, 1) := by decide +kernel
theorem dX0_takeAll_10 : decode cX0_takeAll 10 = .ok (.bipush 8, 2) := by decide +kernel
theorem dX0_takeAll_12 : decode cX0_takeAll 12 = .ok (.invokestatic 31, 3) := by decide +kernel
theorem dX0_takeAll_15 : decode cX0_takeAll 15 = .ok (.aload_n 0, 1) := by decide +kernel
theorem dX0_takeAll_16 : decode cX0_takeAll 16 = .ok (.aload_n 1, 1) := by decide +kernel
theorem dX0_takeAll_17 : decode cX0_takeAll 17 = .ok (.getfield 25, 3) := by decide +kernel
theorem dX0_takeAll_20 : decode cX0_takeAll 20 = .ok (.putfield 25, 3) := by decide +kernel
theorem dX0_takeAll_23 : decode cX0_takeAll 23 = .ok (.aload_n 0, 1) := by decide +kernel
theorem dX0_takeAll_24 : decode cX0_takeAll 24 = .ok (.aload_n 1, 1) := by decide +kernel
theorem dX0_takeAll_25 : decode cX0_takeAll 25 = .ok (.getfield 15, 3) := by decide +kernel
theorem dX0_takeAll_28 : decode cX0_takeAll 28 = .ok (.putfield 15, 3) := by decide +kernel
theorem dX0_takeAll_31 : decode cX0_takeAll 31 = .ok (.aload_n 0, 1) := by decide +kernel
theorem dX0_takeAll_32 : decode cX0_takeAll 32 = .ok (.aload_n 1, 1) := by decide +kernel
theorem dX0_takeAll_33 : decode cX0_takeAll 33 = .ok (.getfield 19, 3) := by decide +kernel
theorem dX0_takeAll_36 : decode cX0_takeAll 36 = .ok (.putfield 19, 3) := by decide +kernel
theorem dX0_takeAll_39 : decode cX0_takeAll 39 = .ok (.aload_n 0, 1) := by decide +kernel
theorem dX0_takeAll_40 : decode cX0_takeAll 40 = .ok (.aload_n 1, 1) := by decide +kernel
theorem dX0_takeAll_41 : decode cX0_takeAll 41 = .ok (.getfield 22, 3) := by decide +kernel
theorem dX0_takeAll_44 : decode cX0_takeAll 44 = .ok (.putfield 22, 3) := by decide +kernel
theorem dX0_takeAll_47 : decode cX0_takeAll 47 = .ok (.aload_n 0, 1) := by decide +kernel
theorem dX0_takeAll_48 : decode cX0_takeAll 48 = .ok (.aload_n 1, 1) := by decide +kernel
theorem dX0_takeAll_49 : decode cX0_takeAll 49 = .ok (.getfield 28, 3) := by decide +kernel
theorem dX0_takeAll_52 : decode cX0_takeAll 52 = .ok (.putfield 28, 3) := by decide +kernel
theorem dX0_takeAll_55 : decode cX0_takeAll 55 = .ok (.return_, 1) := by decide +kernel
theorem dX0_standAt_0 : decode cX0_standAt 0 = .ok (.aload_n 0, 1) := by decide +kernel
theorem dX0_standAt_1 : decode cX0_standAt 1 = .ok (.iconst 0, 1) := by decide +kernel
theorem dX0_standAt_2 : decode cX0_standAt 2 = .ok (.putfield 25, 3) := by decide +kernel
theorem dX0_standAt_5 : decode cX0_standAt 5 = .ok (.aload_n 0, 1) := by decide +kernel
theorem dX0_standAt_6 : decode cX0_standAt 6 = .ok (.getfield 25, 3) := by decide +kernel
theorem dX0_standAt_9 : decode cX0_standAt 9 = .ok (.bipush 8, 2) := by decide +kernel
theorem dX0_standAt_11 : decode cX0_standAt 11 = .ok (.if_icmp .ge 60, 3) := by decide +kernel
theorem dX0_standAt_14 : decode cX0_standAt 14 = .ok (.aload_n 0, 1) := by decide +kernel
theorem dX0_standAt_15 : decode cX0_standAt 15 = .ok (.getfield 25, 3) := by decide +kernel
theorem dX0_standAt_18 : decode cX0_standAt 18 = .ok (.iload_n 2, 1) := by decide +kernel
theorem dX0_standAt_19 : decode cX0_standAt 19 = .ok (.if_icmp .ge 52, 3) := by decide +kernel
theorem dX0_standAt_22 : decode cX0_standAt 22 = .ok (.aload_n 0, 1) := by decide +kernel
theorem dX0_standAt_23 : decode cX0_standAt 23 = .ok (.getfield 25, 3) := by decide +kernel
theorem dX0_standAt_26 : decode cX0_standAt 26 = .ok (.aload_n 1, 1) := by decide +kernel
theorem dX0_standAt_27 : decode cX0_standAt 27 = .ok (.arraylength, 1) := by decide +kernel
theorem dX0_standAt_28 : decode cX0_standAt 28 = .ok (.if_icmp .ge 43, 3) := by decide +kernel
theorem dX0_standAt_31 : decode cX0_standAt 31 = .ok (.aload_n 1, 1) := by decide +kernel
theorem dX0_standAt_32 : decode cX0_standAt 32 = .ok (.aload_n 0, 1) := by decide +kernel
theorem dX0_standAt_33 : decode cX0_standAt 33 = .ok (.getfield 25, 3) := by decide +kernel
theorem dX0_standAt_36 : decode cX0_standAt 36 = .ok (.iaload, 1) := by decide +kernel
theorem dX0_standAt_37 : decode cX0_standAt 37 = .ok (.invokestatic 37, 3) := by decide +kernel
theorem dX0_standAt_40 : decode cX0_standAt 40 = .ok (.ifCond .eq 31, 3) := by decide +kernel
theorem dX0_standAt_43 : decode cX0_standAt 43 = .ok (.aload_n 0, 1) := by decide +kernel
theorem dX0_standAt_44 : decode cX0_standAt 44 = .ok (.getfield 11, 3) := by decide +kernel
theorem dX0_standAt_47 : decode cX0_standAt 47 = .ok (.aload_n 0, 1) := by decide +kernel
theorem dX0_standAt_48 : decode cX0_standAt 48 = .ok (.getfield 25, 3) := by decide +kernel
theorem dX0_standAt_51 : decode cX0_standAt 51 = .ok (.aload_n 1, 1) := by decide +kernel
theorem dX0_standAt_52 : decode cX0_standAt 52 = .ok (.aload_n 0, 1) := by decide +kernel
theorem dX0_standAt_53 : decode cX0_standAt 53 = .ok (.getfield 25, 3) := by decide +kernel
theorem dX0_standAt_56 : decode cX0_standAt 56 = .ok (.iaload, 1) := by decide +kernel
theorem dX0_standAt_57 : decode cX0_standAt 57 = .ok (.iastore, 1) := by decide +kernel
theorem dX0_standAt_58 : decode cX0_standAt 58 = .ok (.aload_n 0, 1) := by decide +kernel
theorem dX0_standAt_59 : decode cX0_standAt 59 = .ok (.dup, 1) := by decide +kernel
theorem dX0_standAt_60 : decode cX0_standAt 60 = .ok (.getfield 25, 3) := by decide +kernel
theorem dX0_standAt_63 : decode cX0_standAt 63 = .ok (.iconst 1, 1) := by decide +kernel
theorem dX0_standAt_64 : decode cX0_standAt 64 = .ok (.iadd, 1) := by decide +kernel
theorem dX0_standAt_65 : decode cX0_standAt 65 = .ok (.putfield 25, 3) := by decide +kernel
theorem dX0_standAt_68 : decode cX0_standAt 68 = .ok (.goto (-63), 3) := by decide +kernel
theorem dX0_standAt_71 : decode cX0_standAt 71 = .ok (.return_, 1) := by decide +kernel
theorem dX0_headsAt_0 : decode cX0_headsAt 0 = .ok (.aload_n 0, 1) := by decide +kernel
theorem dX0_headsAt_1 : decode cX0_headsAt 1 = .ok (.getfield 15, 3) := by decide +kernel
theorem dX0_headsAt_4 : decode cX0_headsAt 4 = .ok (.tableswitch 126 2 6 #[36, 52, 65, 88, 108], 36) := by decide +kernel
theorem dX0_headsAt_40 : decode cX0_headsAt 40 = .ok (.iload_n 2, 1) := by decide +kernel
theorem dX0_headsAt_41 : decode cX0_headsAt 41 = .ok (.iconst 2, 1) := by decide +kernel
theorem dX0_headsAt_42 : decode cX0_headsAt 42 = .ok (.irem, 1) := by decide +kernel
theorem dX0_headsAt_43 : decode cX0_headsAt 43 = .ok (.iconst 1, 1) := by decide +kernel
theorem dX0_headsAt_44 : decode cX0_headsAt 44 = .ok (.if_icmp .ne 7, 3) := by decide +kernel
theorem dX0_headsAt_47 : decode cX0_headsAt 47 = .ok (.iconst (-1), 1) := by decide +kernel
theorem dX0_headsAt_48 : decode cX0_headsAt 48 = .ok (.goto 7, 3) := by decide +kernel
theorem dX0_headsAt_51 : decode cX0_headsAt 51 = .ok (.aload_n 0, 1) := by decide +kernel
theorem dX0_headsAt_52 : decode cX0_headsAt 52 = .ok (.getfield 22, 3) := by decide +kernel
theorem dX0_headsAt_55 : decode cX0_headsAt 55 = .ok (.ireturn, 1) := by decide +kernel
theorem dX0_headsAt_56 : decode cX0_headsAt 56 = .ok (.aload_n 0, 1) := by decide +kernel
theorem dX0_headsAt_57 : decode cX0_headsAt 57 = .ok (.getfield 22, 3) := by decide +kernel
theorem dX0_headsAt_60 : decode cX0_headsAt 60 = .ok (.aload_n 0, 1) := by decide +kernel
theorem dX0_headsAt_61 : decode cX0_headsAt 61 = .ok (.iload_n 2, 1) := by decide +kernel
theorem dX0_headsAt_62 : decode cX0_headsAt 62 = .ok (.invokevirtual 43, 3) := by decide +kernel
theorem dX0_headsAt_65 : decode cX0_headsAt 65 = .ok (.iadd, 1) := by decide +kernel
theorem dX0_headsAt_66 : decode cX0_headsAt 66 = .ok (.iconst 4, 1) := by decide +kernel
theorem dX0_headsAt_67 : decode cX0_headsAt 67 = .ok (.irem, 1) := by decide +kernel
theorem dX0_headsAt_68 : decode cX0_headsAt 68 = .ok (.ireturn, 1) := by decide +kernel
theorem dX0_headsAt_69 : decode cX0_headsAt 69 = .ok (.iload_n 2, 1) := by decide +kernel
theorem dX0_headsAt_70 : decode cX0_headsAt 70 = .ok (.iconst 4, 1) := by decide +kernel
theorem dX0_headsAt_71 : decode cX0_headsAt 71 = .ok (.irem, 1) := by decide +kernel
theorem dX0_headsAt_72 : decode cX0_headsAt 72 = .ok (.iconst 2, 1) := by decide +kernel
theorem dX0_headsAt_73 : decode cX0_headsAt 73 = .ok (.if_icmp .lt 14, 3) := by decide +kernel
theorem dX0_headsAt_76 : decode cX0_headsAt 76 = .ok (.aload_n 0, 1) := by decide +kernel
theorem dX0_headsAt_77 : decode cX0_headsAt 77 = .ok (.getfield 22, 3) := by decide +kernel
theorem dX0_headsAt_80 : decode cX0_headsAt 80 = .ok (.iconst 2, 1) := by decide +kernel
theorem dX0_headsAt_81 : decode cX0_headsAt 81 = .ok (.iadd, 1) := by decide +kernel
theorem dX0_headsAt_82 : decode cX0_headsAt 82 = .ok (.iconst 4, 1) := by decide +kernel
theorem dX0_headsAt_83 : decode cX0_headsAt 83 = .ok (.irem, 1) := by decide +kernel
theorem dX0_headsAt_84 : decode cX0_headsAt 84 = .ok (.goto 7, 3) := by decide +kernel
theorem dX0_headsAt_87 : decode cX0_headsAt 87 = .ok (.aload_n 0, 1) := by decide +kernel
theorem dX0_headsAt_88 : decode cX0_headsAt 88 = .ok (.getfield 22, 3) := by decide +kernel
theorem dX0_headsAt_91 : decode cX0_headsAt 91 = .ok (.ireturn, 1) := by decide +kernel
theorem dX0_headsAt_92 : decode cX0_headsAt 92 = .ok (.iload_n 1, 1) := by decide +kernel
theorem dX0_headsAt_93 : decode cX0_headsAt 93 = .ok (.ifCond .eq 10, 3) := by decide +kernel
theorem dX0_headsAt_96 : decode cX0_headsAt 96 = .ok (.iload_n 2, 1) := by decide +kernel
theorem dX0_headsAt_97 : decode cX0_headsAt 97 = .ok (.iconst 2, 1) := by decide +kernel
theorem dX0_headsAt_98 : decode cX0_headsAt 98 = .ok (.irem, 1) := by decide +kernel
theorem dX0_headsAt_99 : decode cX0_headsAt 99 = .ok (.iconst 1, 1) := by decide +kernel
theorem dX0_headsAt_100 : decode cX0_headsAt 100 = .ok (.if_icmp .ne 7, 3) := by decide +kernel
theorem dX0_headsAt_103 : decode cX0_headsAt 103 = .ok (.iconst (-1), 1) := by decide +kernel
theorem dX0_headsAt_104 : decode cX0_headsAt 104 = .ok (.goto 7, 3) := by decide +kernel
theorem dX0_headsAt_107 : decode cX0_headsAt 107 = .ok (.aload_n 0, 1) := by decide +kernel
theorem dX0_headsAt_108 : decode cX0_headsAt 108 = .ok (.getfield 22, 3) := by decide +kernel
theorem dX0_headsAt_111 : decode cX0_headsAt 111 = .ok (.ireturn, 1) := by decide +kernel
theorem dX0_headsAt_112 : decode cX0_headsAt 112 = .ok (.aload_n 0, 1) := by decide +kernel
theorem dX0_headsAt_113 : decode cX0_headsAt 113 = .ok (.getfield 19, 3) := by decide +kernel
theorem dX0_headsAt_116 : decode cX0_headsAt 116 = .ok (.bipush 9, 2) := by decide +kernel
theorem dX0_headsAt_118 : decode cX0_headsAt 118 = .ok (.if_icmp .ne 10, 3) := by decide +kernel
theorem dX0_headsAt_121 : decode cX0_headsAt 121 = .ok (.aload_n 0, 1) := by decide +kernel
theorem dX0_headsAt_122 : decode cX0_headsAt 122 = .ok (.getfield 22, 3) := by decide +kernel
theorem dX0_headsAt_125 : decode cX0_headsAt 125 = .ok (.goto 4, 3) := by decide +kernel
theorem dX0_headsAt_128 : decode cX0_headsAt 128 = .ok (.iconst (-1), 1) := by decide +kernel
theorem dX0_headsAt_129 : decode cX0_headsAt 129 = .ok (.ireturn, 1) := by decide +kernel
theorem dX0_headsAt_130 : decode cX0_headsAt 130 = .ok (.aload_n 0, 1) := by decide +kernel
theorem dX0_headsAt_131 : decode cX0_headsAt 131 = .ok (.getfield 22, 3) := by decide +kernel
theorem dX0_headsAt_134 : decode cX0_headsAt 134 = .ok (.ireturn, 1) := by decide +kernel
theorem dX0_turnsBy_0 : decode cX0_turnsBy 0 = .ok (.aload_n 0, 1) := by decide +kernel
theorem dX0_turnsBy_1 : decode cX0_turnsBy 1 = .ok (.getfield 19, 3) := by decide +kernel
theorem dX0_turnsBy_4 : decode cX0_turnsBy 4 = .ok (.iconst 1, 1) := by decide +kernel
theorem dX0_turnsBy_5 : decode cX0_turnsBy 5 = .ok (.iadd, 1) := by decide +kernel
theorem dX0_turnsBy_6 : decode cX0_turnsBy 6 = .ok (.istore_n 2, 1) := by decide +kernel
theorem dX0_turnsBy_7 : decode cX0_turnsBy 7 = .ok (.iload_n 2, 1) := by decide +kernel
theorem dX0_turnsBy_8 : decode cX0_turnsBy 8 = .ok (.ifCond .le 9, 3) := by decide +kernel
theorem dX0_turnsBy_11 : decode cX0_turnsBy 11 = .ok (.iload_n 1, 1) := by decide +kernel
theorem dX0_turnsBy_12 : decode cX0_turnsBy 12 = .ok (.iload_n 2, 1) := by decide +kernel
theorem dX0_turnsBy_13 : decode cX0_turnsBy 13 = .ok (.idiv, 1) := by decide +kernel
theorem dX0_turnsBy_14 : decode cX0_turnsBy 14 = .ok (.goto 4, 3) := by decide +kernel
theorem dX0_turnsBy_17 : decode cX0_turnsBy 17 = .ok (.iconst 0, 1) := by decide +kernel
theorem dX0_turnsBy_18 : decode cX0_turnsBy 18 = .ok (.ireturn, 1) := by decide +kernel
theorem dX0_postsMove_0 : decode cX0_postsMove 0 = .ok (.aload_n 0, 1) := by decide +kernel
theorem dX0_postsMove_1 : decode cX0_postsMove 1 = .ok (.getfield 15, 3) := by decide +kernel
theorem dX0_postsMove_4 : decode cX0_postsMove 4 = .ok (.iconst 1, 1) := by decide +kernel
theorem dX0_postsMove_5 : decode cX0_postsMove 5 = .ok (.invokestatic 47, 3) := by decide +kernel
theorem dX0_postsMove_8 : decode cX0_postsMove 8 = .ok (.ifCond .eq 9, 3) := by decide +kernel
theorem dX0_postsMove_11 : decode cX0_postsMove 11 = .ok (.lload_n 1, 1) := by decide +kernel
theorem dX0_postsMove_12 : decode cX0_postsMove 12 = .ok (.lload_n 3, 1) := by decide +kernel
theorem dX0_postsMove_13 : decode cX0_postsMove 13 = .ok (.lor, 1) := by decide +kernel
theorem dX0_postsMove_14 : decode cX0_postsMove 14 = .ok (.goto 4, 3) := by decide +kernel
theorem dX0_postsMove_17 : decode cX0_postsMove 17 = .ok (.lload_n 1, 1) := by decide +kernel
theorem dX0_postsMove_18 : decode cX0_postsMove 18 = .ok (.lstore 6, 2) := by decide +kernel
theorem dX0_postsMove_20 : decode cX0_postsMove 20 = .ok (.iconst 0, 1) := by decide +kernel
theorem dX0_postsMove_21 : decode cX0_postsMove 21 = .ok (.istore 8, 2) := by decide +kernel
theorem dX0_postsMove_23 : decode cX0_postsMove 23 = .ok (.iload 8, 2) := by decide +kernel
theorem dX0_postsMove_25 : decode cX0_postsMove 25 = .ok (.aload_n 0, 1) := by decide +kernel
theorem dX0_postsMove_26 : decode cX0_postsMove 26 = .ok (.getfield 25, 3) := by decide +kernel
theorem dX0_postsMove_29 : decode cX0_postsMove 29 = .ok (.if_icmp .ge 53, 3) := by decide +kernel
theorem dX0_postsMove_32 : decode cX0_postsMove 32 = .ok (.aload_n 0, 1) := by decide +kernel
theorem dX0_postsMove_33 : decode cX0_postsMove 33 = .ok (.getfield 11, 3) := by decide +kernel
theorem dX0_postsMove_36 : decode cX0_postsMove 36 = .ok (.iload 8, 2) := by decide +kernel
theorem dX0_postsMove_38 : decode cX0_postsMove 38 = .ok (.iaload, 1) := by decide +kernel
theorem dX0_postsMove_39 : decode cX0_postsMove 39 = .ok (.aload_n 0, 1) := by decide +kernel
theorem dX0_postsMove_40 : decode cX0_postsMove 40 = .ok (.iload 8, 2) := by decide +kernel
theorem dX0_postsMove_42 : decode cX0_postsMove 42 = .ok (.iload 5, 2) := by decide +kernel
theorem dX0_postsMove_44 : decode cX0_postsMove 44 = .ok (.invokevirtual 51, 3) := by decide +kernel
theorem dX0_postsMove_47 : decode cX0_postsMove 47 = .ok (.invokestatic 55, 3) := by decide +kernel
theorem dX0_postsMove_50 : decode cX0_postsMove 50 = .ok (.istore 9, 2) := by decide +kernel
theorem dX0_postsMove_52 : decode cX0_postsMove 52 = .ok (.iload 9, 2) := by decide +kernel
theorem dX0_postsMove_54 : decode cX0_postsMove 54 = .ok (.ifCond .lt 22, 3) := by decide +kernel
theorem dX0_postsMove_57 : decode cX0_postsMove 57 = .ok (.lload 6, 2) := by decide +kernel
theorem dX0_postsMove_59 : decode cX0_postsMove 59 = .ok (.iload 9, 2) := by decide +kernel
theorem dX0_postsMove_61 : decode cX0_postsMove 61 = .ok (.invokestatic 58, 3) := by decide +kernel
theorem dX0_postsMove_64 : decode cX0_postsMove 64 = .ok (.ifCond .ne 12, 3) := by decide +kernel
theorem dX0_postsMove_67 : decode cX0_postsMove 67 = .ok (.aload_n 0, 1) := by decide +kernel
theorem dX0_postsMove_68 : decode cX0_postsMove 68 = .ok (.getfield 11, 3) := by decide +kernel
theorem dX0_postsMove_71 : decode cX0_postsMove 71 = .ok (.iload 8, 2) := by decide +kernel
theorem dX0_postsMove_73 : decode cX0_postsMove 73 = .ok (.iload 9, 2) := by decide +kernel
theorem dX0_postsMove_75 : decode cX0_postsMove 75 = .ok (.iastore, 1) := by decide +kernel
theorem dX0_postsMove_76 : decode cX0_postsMove 76 = .ok (.iinc 8 1, 3) := by decide +kernel
theorem dX0_postsMove_79 : decode cX0_postsMove 79 = .ok (.goto (-56), 3) := by decide +kernel
theorem dX0_postsMove_82 : decode cX0_postsMove 82 = .ok (.return_, 1) := by decide +kernel
theorem dX0_tried_0 : decode cX0_tried 0 = .ok (.lconst 0, 1) := by decide +kernel
theorem dX0_tried_1 : decode cX0_tried 1 = .ok (.lstore_n 3, 1) := by decide +kernel
theorem dX0_tried_2 : decode cX0_tried 2 = .ok (.iconst 0, 1) := by decide +kernel
theorem dX0_tried_3 : decode cX0_tried 3 = .ok (.istore 5, 2) := by decide +kernel
theorem dX0_tried_5 : decode cX0_tried 5 = .ok (.iload 5, 2) := by decide +kernel
theorem dX0_tried_7 : decode cX0_tried 7 = .ok (.aload_n 0, 1) := by decide +kernel
theorem dX0_tried_8 : decode cX0_tried 8 = .ok (.getfield 25, 3) := by decide +kernel
theorem dX0_tried_11 : decode cX0_tried 11 = .ok (.if_icmp .ge 65, 3) := by decide +kernel
theorem dX0_tried_14 : decode cX0_tried 14 = .ok (.aload_n 0, 1) := by decide +kernel
theorem dX0_tried_15 : decode cX0_tried 15 = .ok (.getfield 11, 3) := by decide +kernel
theorem dX0_tried_18 : decode cX0_tried 18 = .ok (.iload 5, 2) := by decide +kernel
theorem dX0_tried_20 : decode cX0_tried 20 = .ok (.iaload, 1) := by decide +kernel
theorem dX0_tried_21 : decode cX0_tried 21 = .ok (.invokestatic 62, 3) := by decide +kernel
theorem dX0_tried_24 : decode cX0_tried 24 = .ok (.lstore 6, 2) := by decide +kernel
theorem dX0_tried_26 : decode cX0_tried 26 = .ok (.iconst 0, 1) := by decide +kernel
theorem dX0_tried_27 : decode cX0_tried 27 = .ok (.istore 8, 2) := by decide +kernel
theorem dX0_tried_29 : decode cX0_tried 29 = .ok (.iload 8, 2) := by decide +kernel
theorem dX0_tried_31 : decode cX0_tried 31 = .ok (.iload_n 2, 1) := by decide +kernel
theorem dX0_tried_32 : decode cX0_tried 32 = .ok (.if_icmp .ge 38, 3) := by decide +kernel
theorem dX0_tried_35 : decode cX0_tried 35 = .ok (.lload 6, 2) := by decide +kernel
theorem dX0_tried_37 : decode cX0_tried 37 = .ok (.aload_n 0, 1) := by decide +kernel
theorem dX0_tried_38 : decode cX0_tried 38 = .ok (.iload 5, 2) := by decide +kernel
theorem dX0_tried_40 : decode cX0_tried 40 = .ok (.iload_n 1, 1) := by decide +kernel
theorem dX0_tried_41 : decode cX0_tried 41 = .ok (.iload 8, 2) := by decide +kernel
theorem dX0_tried_43 : decode cX0_tried 43 = .ok (.iadd, 1) := by decide +kernel
theorem dX0_tried_44 : decode cX0_tried 44 = .ok (.invokevirtual 51, 3) := by decide +kernel
theorem dX0_tried_47 : decode cX0_tried 47 = .ok (.invokestatic 66, 3) := by decide +kernel
theorem dX0_tried_50 : decode cX0_tried 50 = .ok (.lstore 9, 2) := by decide +kernel
theorem dX0_tried_52 : decode cX0_tried 52 = .ok (.lload_n 3, 1) := by decide +kernel
theorem dX0_tried_53 : decode cX0_tried 53 = .ok (.lload 9, 2) := by decide +kernel
theorem dX0_tried_55 : decode cX0_tried 55 = .ok (.lor, 1) := by decide +kernel
theorem dX0_tried_56 : decode cX0_tried 56 = .ok (.lstore_n 3, 1) := by decide +kernel
theorem dX0_tried_57 : decode cX0_tried 57 = .ok (.lload 6, 2) := by decide +kernel
theorem dX0_tried_59 : decode cX0_tried 59 = .ok (.lload 9, 2) := by decide +kernel
theorem dX0_tried_61 : decode cX0_tried 61 = .ok (.lor, 1) := by decide +kernel
theorem dX0_tried_62 : decode cX0_tried 62 = .ok (.lstore 6, 2) := by decide +kernel
theorem dX0_tried_64 : decode cX0_tried 64 = .ok (.iinc 8 1, 3) := by decide +kernel
theorem dX0_tried_67 : decode cX0_tried 67 = .ok (.goto (-38), 3) := by decide +kernel
theorem dX0_tried_70 : decode cX0_tried 70 = .ok (.iinc 5 1, 3) := by decide +kernel
theorem dX0_tried_73 : decode cX0_tried 73 = .ok (.goto (-68), 3) := by decide +kernel
theorem dX0_tried_76 : decode cX0_tried 76 = .ok (.lload_n 3, 1) := by decide +kernel
theorem dX0_tried_77 : decode cX0_tried 77 = .ok (.lreturn, 1) := by decide +kernel
theorem dX0_standing_0 : decode cX0_standing 0 = .ok (.lconst 0, 1) := by decide +kernel
theorem dX0_standing_1 : decode cX0_standing 1 = .ok (.lstore_n 1, 1) := by decide +kernel
theorem dX0_standing_2 : decode cX0_standing 2 = .ok (.iconst 0, 1) := by decide +kernel
theorem dX0_standing_3 : decode cX0_standing 3 = .ok (.istore_n 3, 1) := by decide +kernel
theorem dX0_standing_4 : decode cX0_standing 4 = .ok (.iload_n 3, 1) := by decide +kernel
theorem dX0_standing_5 : decode cX0_standing 5 = .ok (.aload_n 0, 1) := by decide +kernel
theorem dX0_standing_6 : decode cX0_standing 6 = .ok (.getfield 25, 3) := by decide +kernel
theorem dX0_standing_9 : decode cX0_standing 9 = .ok (.if_icmp .ge 21, 3) := by decide +kernel
theorem dX0_standing_12 : decode cX0_standing 12 = .ok (.lload_n 1, 1) := by decide +kernel
theorem dX0_standing_13 : decode cX0_standing 13 = .ok (.aload_n 0, 1) := by decide +kernel
theorem dX0_standing_14 : decode cX0_standing 14 = .ok (.getfield 11, 3) := by decide +kernel
theorem dX0_standing_17 : decode cX0_standing 17 = .ok (.iload_n 3, 1) := by decide +kernel
theorem dX0_standing_18 : decode cX0_standing 18 = .ok (.iaload, 1) := by decide +kernel
theorem dX0_standing_19 : decode cX0_standing 19 = .ok (.invokestatic 62, 3) := by decide +kernel
theorem dX0_standing_22 : decode cX0_standing 22 = .ok (.lor, 1) := by decide +kernel
theorem dX0_standing_23 : decode cX0_standing 23 = .ok (.lstore_n 1, 1) := by decide +kernel
theorem dX0_standing_24 : decode cX0_standing 24 = .ok (.iinc 3 1, 3) := by decide +kernel
theorem dX0_standing_27 : decode cX0_standing 27 = .ok (.goto (-23), 3) := by decide +kernel
theorem dX0_standing_30 : decode cX0_standing 30 = .ok (.lload_n 1, 1) := by decide +kernel
theorem dX0_standing_31 : decode cX0_standing 31 = .ok (.lreturn, 1) := by decide +kernel
theorem dX0_inside_0 : decode cX0_inside 0 = .ok (.aload_n 0, 1) := by decide +kernel
theorem dX0_inside_1 : decode cX0_inside 1 = .ok (.invokevirtual 70, 3) := by decide +kernel
theorem dX0_inside_4 : decode cX0_inside 4 = .ok (.invokestatic 74, 3) := by decide +kernel
theorem dX0_inside_7 : decode cX0_inside 7 = .ok (.lreturn, 1) := by decide +kernel
theorem dX1_isCell_0 : decode cX1_isCell 0 = .ok (.iload_n 0, 1) := by decide +kernel
theorem dX1_isCell_1 : decode cX1_isCell 1 = .ok (.ifCond .lt 13, 3) := by decide +kernel
theorem dX1_isCell_4 : decode cX1_isCell 4 = .ok (.iload_n 0, 1) := by decide +kernel
theorem dX1_isCell_5 : decode cX1_isCell 5 = .ok (.bipush 64, 2) := by decide +kernel
theorem dX1_isCell_7 : decode cX1_isCell 7 = .ok (.if_icmp .ge 7, 3) := by decide +kernel
theorem dX1_isCell_10 : decode cX1_isCell 10 = .ok (.iconst 1, 1) := by decide +kernel
theorem dX1_isCell_11 : decode cX1_isCell 11 = .ok (.goto 4, 3) := by decide +kernel
theorem dX1_isCell_14 : decode cX1_isCell 14 = .ok (.iconst 0, 1) := by decide +kernel
theorem dX1_isCell_15 : decode cX1_isCell 15 = .ok (.ireturn, 1) := by decide +kernel
theorem dX1_bit_0 : decode cX1_bit 0 = .ok (.lconst 1, 1) := by decide +kernel
theorem dX1_bit_1 : decode cX1_bit 1 = .ok (.iload_n 0, 1) := by decide +kernel
theorem dX1_bit_2 : decode cX1_bit 2 = .ok (.lshl, 1) := by decide +kernel
theorem dX1_bit_3 : decode cX1_bit 3 = .ok (.lreturn, 1) := by decide +kernel
theorem dX1_has_0 : decode cX1_has 0 = .ok (.lload_n 0, 1) := by decide +kernel
theorem dX1_has_1 : decode cX1_has 1 = .ok (.iload_n 2, 1) := by decide +kernel
theorem dX1_has_2 : decode cX1_has 2 = .ok (.lushr, 1) := by decide +kernel
theorem dX1_has_3 : decode cX1_has 3 = .ok (.lconst 1, 1) := by decide +kernel
theorem dX1_has_4 : decode cX1_has 4 = .ok (.land, 1) := by decide +kernel
theorem dX1_has_5 : decode cX1_has 5 = .ok (.lconst 0, 1) := by decide +kernel
theorem dX1_has_6 : decode cX1_has 6 = .ok (.lcmp, 1) := by decide +kernel
theorem dX1_has_7 : decode cX1_has 7 = .ok (.ifCond .eq 7, 3) := by decide +kernel
theorem dX1_has_10 : decode cX1_has 10 = .ok (.iconst 1, 1) := by decide +kernel
theorem dX1_has_11 : decode cX1_has 11 = .ok (.goto 4, 3) := by decide +kernel
theorem dX1_has_14 : decode cX1_has 14 = .ok (.iconst 0, 1) := by decide +kernel
theorem dX1_has_15 : decode cX1_has 15 = .ok (.ireturn, 1) := by decide +kernel
theorem dX1_next_0 : decode cX1_next 0 = .ok (.iload_n 1, 1) := by decide +kernel
theorem dX1_next_1 : decode cX1_next 1 = .ok (.tableswitch 93 0 3 #[31, 46, 63, 78], 31) := by decide +kernel
theorem dX1_next_32 : decode cX1_next 32 = .ok (.iload_n 0, 1) := by decide +kernel
theorem dX1_next_33 : decode cX1_next 33 = .ok (.bipush 8, 2) := by decide +kernel
theorem dX1_next_35 : decode cX1_next 35 = .ok (.if_icmp .lt 10, 3) := by decide +kernel
theorem dX1_next_38 : decode cX1_next 38 = .ok (.iload_n 0, 1) := by decide +kernel
theorem dX1_next_39 : decode cX1_next 39 = .ok (.bipush 8, 2) := by decide +kernel
theorem dX1_next_41 : decode cX1_next 41 = .ok (.isub, 1) := by decide +kernel
theorem dX1_next_42 : decode cX1_next 42 = .ok (.goto 4, 3) := by decide +kernel
theorem dX1_next_45 : decode cX1_next 45 = .ok (.iconst (-1), 1) := by decide +kernel
theorem dX1_next_46 : decode cX1_next 46 = .ok (.ireturn, 1) := by decide +kernel
theorem dX1_next_47 : decode cX1_next 47 = .ok (.iload_n 0, 1) := by decide +kernel
theorem dX1_next_48 : decode cX1_next 48 = .ok (.bipush 8, 2) := by decide +kernel
theorem dX1_next_50 : decode cX1_next 50 = .ok (.irem, 1) := by decide +kernel
theorem dX1_next_51 : decode cX1_next 51 = .ok (.bipush 7, 2) := by decide +kernel
theorem dX1_next_53 : decode cX1_next 53 = .ok (.if_icmp .ge 9, 3) := by decide +kernel
theorem dX1_next_56 : decode cX1_next 56 = .ok (.iload_n 0, 1) := by decide +kernel
theorem dX1_next_57 : decode cX1_next 57 = .ok (.iconst 1, 1) := by decide +kernel
theorem dX1_next_58 : decode cX1_next 58 = .ok (.iadd, 1) := by decide +kernel
theorem dX1_next_59 : decode cX1_next 59 = .ok (.goto 4, 3) := by decide +kernel
theorem dX1_next_62 : decode cX1_next 62 = .ok (.iconst (-1), 1) := by decide +kernel
theorem dX1_next_63 : decode cX1_next 63 = .ok (.ireturn, 1) := by decide +kernel
theorem dX1_next_64 : decode cX1_next 64 = .ok (.iload_n 0, 1) := by decide +kernel
theorem dX1_next_65 : decode cX1_next 65 = .ok (.bipush 56, 2) := by decide +kernel
theorem dX1_next_67 : decode cX1_next 67 = .ok (.if_icmp .ge 10, 3) := by decide +kernel
theorem dX1_next_70 : decode cX1_next 70 = .ok (.iload_n 0, 1) := by decide +kernel
theorem dX1_next_71 : decode cX1_next 71 = .ok (.bipush 8, 2) := by decide +kernel
theorem dX1_next_73 : decode cX1_next 73 = .ok (.iadd, 1) := by decide +kernel
theorem dX1_next_74 : decode cX1_next 74 = .ok (.goto 4, 3) := by decide +kernel
theorem dX1_next_77 : decode cX1_next 77 = .ok (.iconst (-1), 1) := by decide +kernel
theorem dX1_next_78 : decode cX1_next 78 = .ok (.ireturn, 1) := by decide +kernel
theorem dX1_next_79 : decode cX1_next 79 = .ok (.iload_n 0, 1) := by decide +kernel
theorem dX1_next_80 : decode cX1_next 80 = .ok (.bipush 8, 2) := by decide +kernel
theorem dX1_next_82 : decode cX1_next 82 = .ok (.irem, 1) := by decide +kernel
theorem dX1_next_83 : decode cX1_next 83 = .ok (.ifCond .le 9, 3) := by decide +kernel
theorem dX1_next_86 : decode cX1_next 86 = .ok (.iload_n 0, 1) := by decide +kernel
theorem dX1_next_87 : decode cX1_next 87 = .ok (.iconst 1, 1) := by decide +kernel
theorem dX1_next_88 : decode cX1_next 88 = .ok (.isub, 1) := by decide +kernel
theorem dX1_next_89 : decode cX1_next 89 = .ok (.goto 4, 3) := by decide +kernel
theorem dX1_next_92 : decode cX1_next 92 = .ok (.iconst (-1), 1) := by decide +kernel
theorem dX1_next_93 : decode cX1_next 93 = .ok (.ireturn, 1) := by decide +kernel
theorem dX1_next_94 : decode cX1_next 94 = .ok (.iconst (-1), 1) := by decide +kernel
theorem dX1_next_95 : decode cX1_next 95 = .ok (.ireturn, 1) := by decide +kernel
theorem dX1_nextOf_0 : decode cX1_nextOf 0 = .ok (.iload_n 2, 1) := by decide +kernel
theorem dX1_nextOf_1 : decode cX1_nextOf 1 = .ok (.tableswitch 57 0 3 #[31, 36, 44, 49], 31) := by decide +kernel
theorem dX1_nextOf_32 : decode cX1_nextOf 32 = .ok (.lload_n 0, 1) := by decide +kernel
theorem dX1_nextOf_33 : decode cX1_nextOf 33 = .ok (.bipush 8, 2) := by decide +kernel
theorem dX1_nextOf_35 : decode cX1_nextOf 35 = .ok (.lushr, 1) := by decide +kernel
theorem dX1_nextOf_36 : decode cX1_nextOf 36 = .ok (.lreturn, 1) := by decide +kernel
theorem dX1_nextOf_37 : decode cX1_nextOf 37 = .ok (.lload_n 0, 1) := by decide +kernel
theorem dX1_nextOf_38 : decode cX1_nextOf 38 = .ok (.ldc2_w 9, 3) := by decide +kernel
theorem dX1_nextOf_41 : decode cX1_nextOf 41 = .ok (.land, 1) := by decide +kernel
theorem dX1_nextOf_42 : decode cX1_nextOf 42 = .ok (.iconst 1, 1) := by decide +kernel
theorem dX1_nextOf_43 : decode cX1_nextOf 43 = .ok (.lshl, 1) := by decide +kernel
theorem dX1_nextOf_44 : decode cX1_nextOf 44 = .ok (.lreturn, 1) := by decide +kernel
theorem dX1_nextOf_45 : decode cX1_nextOf 45 = .ok (.lload_n 0, 1) := by decide +kernel
theorem dX1_nextOf_46 : decode cX1_nextOf 46 = .ok (.bipush 8, 2) := by decide +kernel
theorem dX1_nextOf_48 : decode cX1_nextOf 48 = .ok (.lshl, 1) := by decide +kernel
theorem dX1_nextOf_49 : decode cX1_nextOf 49 = .ok (.lreturn, 1) := by decide +kernel
theorem dX1_nextOf_50 : decode cX1_nextOf 50 = .ok (.lload_n 0, 1) := by decide +kernel
theorem dX1_nextOf_51 : decode cX1_nextOf 51 = .ok (.ldc2_w 11, 3) := by decide +kernel
theorem dX1_nextOf_54 : decode cX1_nextOf 54 = .ok (.land, 1) := by decide +kernel
theorem dX1_nextOf_55 : decode cX1_nextOf 55 = .ok (.iconst 1, 1) := by decide +kernel
theorem dX1_nextOf_56 : decode cX1_nextOf 56 = .ok (.lushr, 1) := by decide +kernel
theorem dX1_nextOf_57 : decode cX1_nextOf 57 = .ok (.lreturn, 1) := by decide +kernel
theorem dX1_nextOf_58 : decode cX1_nextOf 58 = .ok (.lconst 0, 1) := by decide +kernel
theorem dX1_nextOf_59 : decode cX1_nextOf 59 = .ok (.lreturn, 1) := by decide +kernel
theorem dX1_beside_0 : decode cX1_beside 0 = .ok (.lload_n 0, 1) := by decide +kernel
theorem dX1_beside_1 : decode cX1_beside 1 = .ok (.iconst 0, 1) := by decide +kernel
theorem dX1_beside_2 : decode cX1_beside 2 = .ok (.invokestatic 13, 3) := by decide +kernel
theorem dX1_beside_5 : decode cX1_beside 5 = .ok (.lload_n 0, 1) := by decide +kernel
theorem dX1_beside_6 : decode cX1_beside 6 = .ok (.iconst 1, 1) := by decide +kernel
theorem dX1_beside_7 : decode cX1_beside 7 = .ok (.invokestatic 13, 3) := by decide +kernel
theorem dX1_beside_10 : decode cX1_beside 10 = .ok (.lor, 1) := by decide +kernel
theorem dX1_beside_11 : decode cX1_beside 11 = .ok (.lload_n 0, 1) := by decide +kernel
theorem dX1_beside_12 : decode cX1_beside 12 = .ok (.iconst 2, 1) := by decide +kernel
theorem dX1_beside_13 : decode cX1_beside 13 = .ok (.invokestatic 13, 3) := by decide +kernel
theorem dX1_beside_16 : decode cX1_beside 16 = .ok (.lor, 1) := by decide +kernel
theorem dX1_beside_17 : decode cX1_beside 17 = .ok (.lload_n 0, 1) := by decide +kernel
theorem dX1_beside_18 : decode cX1_beside 18 = .ok (.iconst 3, 1) := by decide +kernel
theorem dX1_beside_19 : decode cX1_beside 19 = .ok (.invokestatic 13, 3) := by decide +kernel
theorem dX1_beside_22 : decode cX1_beside 22 = .ok (.lor, 1) := by decide +kernel
theorem dX1_beside_23 : decode cX1_beside 23 = .ok (.lreturn, 1) := by decide +kernel
theorem dX1_inside_0 : decode cX1_inside 0 = .ok (.lload_n 0, 1) := by decide +kernel
theorem dX1_inside_1 : decode cX1_inside 1 = .ok (.ldc2_w 17, 3) := by decide +kernel
theorem dX1_inside_4 : decode cX1_inside 4 = .ok (.lxor, 1) := by decide +kernel
theorem dX1_inside_5 : decode cX1_inside 5 = .ok (.lstore_n 2, 1) := by decide +kernel
theorem dX1_inside_6 : decode cX1_inside 6 = .ok (.ldc2_w 19, 3) := by decide +kernel
theorem dX1_inside_9 : decode cX1_inside 9 = .ok (.lload_n 2, 1) := by decide +kernel
theorem dX1_inside_10 : decode cX1_inside 10 = .ok (.land, 1) := by decide +kernel
theorem dX1_inside_11 : decode cX1_inside 11 = .ok (.lstore 4, 2) := by decide +kernel
theorem dX1_inside_13 : decode cX1_inside 13 = .ok (.iconst 0, 1) := by decide +kernel
theorem dX1_inside_14 : decode cX1_inside 14 = .ok (.istore 6, 2) := by decide +kernel
theorem dX1_inside_16 : decode cX1_inside 16 = .ok (.iload 6, 2) := by decide +kernel
theorem dX1_inside_18 : decode cX1_inside 18 = .ok (.bipush 64, 2) := by decide +kernel
theorem dX1_inside_20 : decode cX1_inside 20 = .ok (.if_icmp .ge 36, 3) := by decide +kernel
theorem dX1_inside_23 : decode cX1_inside 23 = .ok (.lload 4, 2) := by decide +kernel
theorem dX1_inside_25 : decode cX1_inside 25 = .ok (.lload 4, 2) := by decide +kernel
theorem dX1_inside_27 : decode cX1_inside 27 = .ok (.invokestatic 21, 3) := by decide +kernel
theorem dX1_inside_30 : decode cX1_inside 30 = .ok (.lload_n 2, 1) := by decide +kernel
theorem dX1_inside_31 : decode cX1_inside 31 = .ok (.land, 1) := by decide +kernel
theorem dX1_inside_32 : decode cX1_inside 32 = .ok (.lor, 1) := by decide +kernel
theorem dX1_inside_33 : decode cX1_inside 33 = .ok (.lstore 7, 2) := by decide +kernel
theorem dX1_inside_35 : decode cX1_inside 35 = .ok (.lload 7, 2) := by decide +kernel
theorem dX1_inside_37 : decode cX1_inside 37 = .ok (.lload 4, 2) := by decide +kernel
theorem dX1_inside_39 : decode cX1_inside 39 = .ok (.lcmp, 1) := by decide +kernel
theorem dX1_inside_40 : decode cX1_inside 40 = .ok (.ifCond .ne 6, 3) := by decide +kernel
theorem dX1_inside_43 : decode cX1_inside 43 = .ok (.goto 13, 3) := by decide +kernel
theorem dX1_inside_46 : decode cX1_inside 46 = .ok (.lload 7, 2) := by decide +kernel
theorem dX1_inside_48 : decode cX1_inside 48 = .ok (.lstore 4, 2) := by decide +kernel
theorem dX1_inside_50 : decode cX1_inside 50 = .ok (.iinc 6 1, 3) := by decide +kernel
theorem dX1_inside_53 : decode cX1_inside 53 = .ok (.goto (-37), 3) := by decide +kernel
theorem dX1_inside_56 : decode cX1_inside 56 = .ok (.lload_n 2, 1) := by decide +kernel
theorem dX1_inside_57 : decode cX1_inside 57 = .ok (.lload 4, 2) := by decide +kernel
theorem dX1_inside_59 : decode cX1_inside 59 = .ok (.ldc2_w 17, 3) := by decide +kernel
theorem dX1_inside_62 : decode cX1_inside 62 = .ok (.lxor, 1) := by decide +kernel
theorem dX1_inside_63 : decode cX1_inside 63 = .ok (.land, 1) := by decide +kernel
theorem dX1_inside_64 : decode cX1_inside 64 = .ok (.lreturn, 1) := by decide +kernel
theorem dX2_init_0 : decode cX2_init 0 = .ok (.aload_n 0, 1) := by decide +kernel
theorem dX2_init_1 : decode cX2_init 1 = .ok (.invokespecial 1, 3) := by decide +kernel
theorem dX2_init_4 : decode cX2_init 4 = .ok (.aload_n 0, 1) := by decide +kernel
theorem dX2_init_5 : decode cX2_init 5 = .ok (.bipush 60, 2) := by decide +kernel
theorem dX2_init_7 : decode cX2_init 7 = .ok (.newarray .int, 2) := by decide +kernel
theorem dX2_init_9 : decode cX2_init 9 = .ok (.putfield 9, 3) := by decide +kernel
theorem dX2_init_12 : decode cX2_init 12 = .ok (.aload_n 0, 1) := by decide +kernel
theorem dX2_init_13 : decode cX2_init 13 = .ok (.bipush 60, 2) := by decide +kernel
theorem dX2_init_15 : decode cX2_init 15 = .ok (.newarray .int, 2) := by decide +kernel
theorem dX2_init_17 : decode cX2_init 17 = .ok (.putfield 15, 3) := by decide +kernel
theorem dX2_init_20 : decode cX2_init 20 = .ok (.aload_n 0, 1) := by decide +kernel
theorem dX2_init_21 : decode cX2_init 21 = .ok (.iload_n 1, 1) := by decide +kernel
theorem dX2_init_22 : decode cX2_init 22 = .ok (.putfield 18, 3) := by decide +kernel
theorem dX2_init_25 : decode cX2_init 25 = .ok (.return_, 1) := by decide +kernel
theorem dX2_namesOf_0 : decode cX2_namesOf 0 = .ok (.iload_n 0, 1) := by decide +kernel
theorem dX2_namesOf_1 : decode cX2_namesOf 1 = .ok (.ifCond .ne 8, 3) := by decide +kernel
theorem dX2_namesOf_4 : decode cX2_namesOf 4 = .ok (.ldc 22, 2) := by decide +kernel
theorem dX2_namesOf_6 : decode cX2_namesOf 6 = .ok (.goto 5, 3) := by decide +kernel
theorem dX2_namesOf_9 : decode cX2_namesOf 9 = .ok (.ldc 24, 2) := by decide +kernel
theorem dX2_namesOf_11 : decode cX2_namesOf 11 = .ok (.areturn, 1) := by decide +kernel
theorem dX2_takeCode_0 : decode cX2_takeCode 0 = .ok (.aload_n 0, 1) := by decide +kernel
theorem dX2_takeCode_1 : decode cX2_takeCode 1 = .ok (.iconst 0, 1) := by decide +kernel
theorem dX2_takeCode_2 : decode cX2_takeCode 2 = .ok (.iload_n 2, 1) := by decide +kernel
theorem dX2_takeCode_3 : decode cX2_takeCode 3 = .ok (.aload_n 1, 1) := by decide +kernel
theorem dX2_takeCode_4 : decode cX2_takeCode 4 = .ok (.arraylength, 1) := by decide +kernel
theorem dX2_takeCode_5 : decode cX2_takeCode 5 = .ok (.aload_n 0, 1) := by decide +kernel
theorem dX2_takeCode_6 : decode cX2_takeCode 6 = .ok (.getfield 15, 3) := by decide +kernel
theorem dX2_takeCode_9 : decode cX2_takeCode 9 = .ok (.arraylength, 1) := by decide +kernel
theorem dX2_takeCode_10 : decode cX2_takeCode 10 = .ok (.invokestatic 26, 3) := by decide +kernel
theorem dX2_takeCode_13 : decode cX2_takeCode 13 = .ok (.invokestatic 26, 3) := by decide +kernel
theorem dX2_takeCode_16 : decode cX2_takeCode 16 = .ok (.invokestatic 32, 3) := by decide +kernel
theorem dX2_takeCode_19 : decode cX2_takeCode 19 = .ok (.putfield 35, 3) := by decide +kernel
theorem dX2_takeCode_22 : decode cX2_takeCode 22 = .ok (.aload_n 1, 1) := by decide +kernel
theorem dX2_takeCode_23 : decode cX2_takeCode 23 = .ok (.iconst 0, 1) := by decide +kernel
theorem dX2_takeCode_24 : decode cX2_takeCode 24 = .ok (.aload_n 0, 1) := by decide +kernel
theorem dX2_takeCode_25 : decode cX2_takeCode 25 = .ok (.getfield 15, 3) := by decide +kernel
theorem dX2_takeCode_28 : decode cX2_takeCode 28 = .ok (.iconst 0, 1) := by decide +kernel
theorem dX2_takeCode_29 : decode cX2_takeCode 29 = .ok (.aload_n 0, 1) := by decide +kernel
theorem dX2_takeCode_30 : decode cX2_takeCode 30 = .ok (.getfield 35, 3) := by decide +kernel
theorem dX2_takeCode_33 : decode cX2_takeCode 33 = .ok (.invokestatic 38, 3) := by decide +kernel
theorem dX2_takeCode_36 : decode cX2_takeCode 36 = .ok (.return_, 1) := by decide +kernel
theorem dX2_gives_0 : decode cX2_gives 0 = .ok (.aload_n 0, 1) := by decide +kernel
theorem dX2_gives_1 : decode cX2_gives 1 = .ok (.getfield 18, 3) := by decide +kernel
theorem dX2_gives_4 : decode cX2_gives 4 = .ok (.ifCond .ne 38, 3) := by decide +kernel
theorem dX2_gives_7 : decode cX2_gives 7 = .ok (.aload_n 0, 1) := by decide +kernel
theorem dX2_gives_8 : decode cX2_gives 8 = .ok (.getfield 35, 3) := by decide +kernel
theorem dX2_gives_11 : decode cX2_gives 11 = .ok (.ifCond .le 13, 3) := by decide +kernel
theorem dX2_gives_14 : decode cX2_gives 14 = .ok (.aload_n 0, 1) := by decide +kernel
theorem dX2_gives_15 : decode cX2_gives 15 = .ok (.iload_n 1, 1) := by decide +kernel
theorem dX2_gives_16 : decode cX2_gives 16 = .ok (.iload_n 2, 1) := by decide +kernel
theorem dX2_gives_17 : decode cX2_gives 17 = .ok (.iload_n 3, 1) := by decide +kernel
theorem dX2_gives_18 : decode cX2_gives 18 = .ok (.invokevirtual 44, 3) := by decide +kernel
theorem dX2_gives_21 : decode cX2_gives 21 = .ok (.goto 6, 3) := by decide +kernel
theorem dX2_gives_24 : decode cX2_gives 24 = .ok (.iload_n 1, 1) := by decide +kernel
theorem dX2_gives_25 : decode cX2_gives 25 = .ok (.iload_n 2, 1) := by decide +kernel
theorem dX2_gives_26 : decode cX2_gives 26 = .ok (.iadd, 1) := by decide +kernel
theorem dX2_gives_27 : decode cX2_gives 27 = .ok (.istore 4, 2) := by decide +kernel
theorem dX2_gives_29 : decode cX2_gives 29 = .ok (.iconst 0, 1) := by decide +kernel
theorem dX2_gives_30 : decode cX2_gives 30 = .ok (.sipush 999, 3) := by decide +kernel
theorem dX2_gives_33 : decode cX2_gives 33 = .ok (.iload 4, 2) := by decide +kernel
theorem dX2_gives_35 : decode cX2_gives 35 = .ok (.invokestatic 26, 3) := by decide +kernel
theorem dX2_gives_38 : decode cX2_gives 38 = .ok (.invokestatic 32, 3) := by decide +kernel
theorem dX2_gives_41 : decode cX2_gives 41 = .ok (.ireturn, 1) := by decide +kernel
theorem dX2_gives_42 : decode cX2_gives 42 = .ok (.aload_n 0, 1) := by decide +kernel
theorem dX2_gives_43 : decode cX2_gives 43 = .ok (.getfield 35, 3) := by decide +kernel
theorem dX2_gives_46 : decode cX2_gives 46 = .ok (.ifCond .le 13, 3) := by decide +kernel
theorem dX2_gives_49 : decode cX2_gives 49 = .ok (.aload_n 0, 1) := by decide +kernel
theorem dX2_gives_50 : decode cX2_gives 50 = .ok (.iload_n 1, 1) := by decide +kernel
theorem dX2_gives_51 : decode cX2_gives 51 = .ok (.iload_n 2, 1) := by decide +kernel
theorem dX2_gives_52 : decode cX2_gives 52 = .ok (.iload_n 3, 1) := by decide +kernel
theorem dX2_gives_53 : decode cX2_gives 53 = .ok (.invokevirtual 44, 3) := by decide +kernel
theorem dX2_gives_56 : decode cX2_gives 56 = .ok (.goto 6, 3) := by decide +kernel
theorem dX2_gives_59 : decode cX2_gives 59 = .ok (.iload_n 2, 1) := by decide +kernel
theorem dX2_gives_60 : decode cX2_gives 60 = .ok (.iconst 1, 1) := by decide +kernel
theorem dX2_gives_61 : decode cX2_gives 61 = .ok (.iadd, 1) := by decide +kernel
theorem dX2_gives_62 : decode cX2_gives 62 = .ok (.istore 4, 2) := by decide +kernel
theorem dX2_gives_64 : decode cX2_gives 64 = .ok (.bipush (-9), 2) := by decide +kernel
theorem dX2_gives_66 : decode cX2_gives 66 = .ok (.bipush 9, 2) := by decide +kernel
theorem dX2_gives_68 : decode cX2_gives 68 = .ok (.iload 4, 2) := by decide +kernel
theorem dX2_gives_70 : decode cX2_gives 70 = .ok (.invokestatic 26, 3) := by decide +kernel
theorem dX2_gives_73 : decode cX2_gives 73 = .ok (.invokestatic 32, 3) := by decide +kernel
theorem dX2_gives_76 : decode cX2_gives 76 = .ok (.ireturn, 1) := by decide +kernel
theorem dX2_workedOut_0 : decode cX2_workedOut 0 = .ok (.iconst 0, 1) := by decide +kernel
theorem dX2_workedOut_1 : decode cX2_workedOut 1 = .ok (.istore 4, 2) := by decide +kernel
theorem dX2_workedOut_3 : decode cX2_workedOut 3 = .ok (.iconst 0, 1) := by decide +kernel
theorem dX2_workedOut_4 : decode cX2_workedOut 4 = .ok (.istore 5, 2) := by decide +kernel
theorem dX2_workedOut_6 : decode cX2_workedOut 6 = .ok (.iload 5, 2) := by decide +kernel
theorem dX2_workedOut_8 : decode cX2_workedOut 8 = .ok (.aload_n 0, 1) := by decide +kernel
theorem dX2_workedOut_9 : decode cX2_workedOut 9 = .ok (.getfield 35, 3) := by decide +kernel
theorem dX2_workedOut_12 : decode cX2_workedOut 12 = .ok (.if_icmp .ge 165, 3) := by decide +kernel
theorem dX2_workedOut_15 : decode cX2_workedOut 15 = .ok (.aload_n 0, 1) := by decide +kernel
theorem dX2_workedOut_16 : decode cX2_workedOut 16 = .ok (.getfield 15, 3) := by decide +kernel
theorem dX2_workedOut_19 : decode cX2_workedOut 19 = .ok (.iload 5, 2) := by decide +kernel
theorem dX2_workedOut_21 : decode cX2_workedOut 21 = .ok (.iaload, 1) := by decide +kernel
theorem dX2_workedOut_22 : decode cX2_workedOut 22 = .ok (.istore 6, 2) := by decide +kernel
theorem dX2_workedOut_24 : decode cX2_workedOut 24 = .ok (.iload 6, 2) := by decide +kernel
theorem dX2_workedOut_26 : decode cX2_workedOut 26 = .ok (.bipush (-33), 2) := by decide +kernel
theorem dX2_workedOut_28 : decode cX2_workedOut 28 = .ok (.if_icmp .ne 41, 3) := by decide +kernel
theorem dX2_workedOut_31 : decode cX2_workedOut 31 = .ok (.iload 4, 2) := by decide +kernel
theorem dX2_workedOut_33 : decode cX2_workedOut 33 = .ok (.iconst 1, 1) := by decide +kernel
theorem dX2_workedOut_34 : decode cX2_workedOut 34 = .ok (.if_icmp .lt 137, 3) := by decide +kernel
theorem dX2_workedOut_37 : decode cX2_workedOut 37 = .ok (.aload_n 0, 1) := by decide +kernel
theorem dX2_workedOut_38 : decode cX2_workedOut 38 = .ok (.getfield 9, 3) := by decide +kernel
theorem dX2_workedOut_41 : decode cX2_workedOut 41 = .ok (.iload 4, 2) := by decide +kernel
theorem dX2_workedOut_43 : decode cX2_workedOut 43 = .ok (.iconst 1, 1) := by decide +kernel
theorem dX2_workedOut_44 : decode cX2_workedOut 44 = .ok (.isub, 1) := by decide +kernel
theorem dX2_workedOut_45 : decode cX2_workedOut 45 = .ok (.aload_n 0, 1) := by decide +kernel
theorem dX2_workedOut_46 : decode cX2_workedOut 46 = .ok (.getfield 9, 3) := by decide +kernel
theorem dX2_workedOut_49 : decode cX2_workedOut 49 = .ok (.iload 4, 2) := by decide +kernel
theorem dX2_workedOut_51 : decode cX2_workedOut 51 = .ok (.iconst 1, 1) := by decide +kernel
theorem dX2_workedOut_52 : decode cX2_workedOut 52 = .ok (.isub, 1) := by decide +kernel
theorem dX2_workedOut_53 : decode cX2_workedOut 53 = .ok (.iaload, 1) := by decide +kernel
theorem dX2_workedOut_54 : decode cX2_workedOut 54 = .ok (.ifCond .ne 7, 3) := by decide +kernel
theorem dX2_workedOut_57 : decode cX2_workedOut 57 = .ok (.iconst 1, 1) := by decide +kernel
theorem dX2_workedOut_58 : decode cX2_workedOut 58 = .ok (.goto 4, 3) := by decide +kernel
theorem dX2_workedOut_61 : decode cX2_workedOut 61 = .ok (.iconst 0, 1) := by decide +kernel
theorem dX2_workedOut_62 : decode cX2_workedOut 62 = .ok (.invokestatic 50, 3) := by decide +kernel
theorem dX2_workedOut_65 : decode cX2_workedOut 65 = .ok (.iastore, 1) := by decide +kernel
theorem dX2_workedOut_66 : decode cX2_workedOut 66 = .ok (.goto 105, 3) := by decide +kernel
theorem dX2_workedOut_69 : decode cX2_workedOut 69 = .ok (.iload 6, 2) := by decide +kernel
theorem dX2_workedOut_71 : decode cX2_workedOut 71 = .ok (.bipush (-3), 2) := by decide +kernel
theorem dX2_workedOut_73 : decode cX2_workedOut 73 = .ok (.if_icmp .ge 46, 3) := by decide +kernel
theorem dX2_workedOut_76 : decode cX2_workedOut 76 = .ok (.iload 4, 2) := by decide +kernel
theorem dX2_workedOut_78 : decode cX2_workedOut 78 = .ok (.iconst 2, 1) := by decide +kernel
theorem dX2_workedOut_79 : decode cX2_workedOut 79 = .ok (.if_icmp .lt 92, 3) := by decide +kernel
theorem dX2_workedOut_82 : decode cX2_workedOut 82 = .ok (.iinc 4 (-1), 3) := by decide +kernel
theorem dX2_workedOut_85 : decode cX2_workedOut 85 = .ok (.aload_n 0, 1) := by decide +kernel
theorem dX2_workedOut_86 : decode cX2_workedOut 86 = .ok (.getfield 9, 3) := by decide +kernel
theorem dX2_workedOut_89 : decode cX2_workedOut 89 = .ok (.iload 4, 2) := by decide +kernel
theorem dX2_workedOut_91 : decode cX2_workedOut 91 = .ok (.iconst 1, 1) := by decide +kernel
theorem dX2_workedOut_92 : decode cX2_workedOut 92 = .ok (.isub, 1) := by decide +kernel
theorem dX2_workedOut_93 : decode cX2_workedOut 93 = .ok (.iload 6, 2) := by decide +kernel
theorem dX2_workedOut_95 : decode cX2_workedOut 95 = .ok (.ineg, 1) := by decide +kernel
theorem dX2_workedOut_96 : decode cX2_workedOut 96 = .ok (.aload_n 0, 1) := by decide +kernel
theorem dX2_workedOut_97 : decode cX2_workedOut 97 = .ok (.getfield 9, 3) := by decide +kernel
theorem dX2_workedOut_100 : decode cX2_workedOut 100 = .ok (.iload 4, 2) := by decide +kernel
theorem dX2_workedOut_102 : decode cX2_workedOut 102 = .ok (.iconst 1, 1) := by decide +kernel
theorem dX2_workedOut_103 : decode cX2_workedOut 103 = .ok (.isub, 1) := by decide +kernel
theorem dX2_workedOut_104 : decode cX2_workedOut 104 = .ok (.iaload, 1) := by decide +kernel
theorem dX2_workedOut_105 : decode cX2_workedOut 105 = .ok (.aload_n 0, 1) := by decide +kernel
theorem dX2_workedOut_106 : decode cX2_workedOut 106 = .ok (.getfield 9, 3) := by decide +kernel
theorem dX2_workedOut_109 : decode cX2_workedOut 109 = .ok (.iload 4, 2) := by decide +kernel
theorem dX2_workedOut_111 : decode cX2_workedOut 111 = .ok (.iaload, 1) := by decide +kernel
theorem dX2_workedOut_112 : decode cX2_workedOut 112 = .ok (.invokestatic 54, 3) := by decide +kernel
theorem dX2_workedOut_115 : decode cX2_workedOut 115 = .ok (.iastore, 1) := by decide +kernel
theorem dX2_workedOut_116 : decode cX2_workedOut 116 = .ok (.goto 55, 3) := by decide +kernel
theorem dX2_workedOut_119 : decode cX2_workedOut 119 = .ok (.iload 4, 2) := by decide +kernel
theorem dX2_workedOut_121 : decode cX2_workedOut 121 = .ok (.aload_n 0, 1) := by decide +kernel
theorem dX2_workedOut_122 : decode cX2_workedOut 122 = .ok (.getfield 9, 3) := by decide +kernel
theorem dX2_workedOut_125 : decode cX2_workedOut 125 = .ok (.arraylength, 1) := by decide +kernel
theorem dX2_workedOut_126 : decode cX2_workedOut 126 = .ok (.if_icmp .ge 45, 3) := by decide +kernel
theorem dX2_workedOut_129 : decode cX2_workedOut 129 = .ok (.aload_n 0, 1) := by decide +kernel
theorem dX2_workedOut_130 : decode cX2_workedOut 130 = .ok (.getfield 9, 3) := by decide +kernel
theorem dX2_workedOut_133 : decode cX2_workedOut 133 = .ok (.iload 4, 2) := by decide +kernel
theorem dX2_workedOut_135 : decode cX2_workedOut 135 = .ok (.iload 6, 2) := by decide +kernel
theorem dX2_workedOut_137 : decode cX2_workedOut 137 = .ok (.ifCond .lt 8, 3) := by decide +kernel
theorem dX2_workedOut_140 : decode cX2_workedOut 140 = .ok (.iload 6, 2) := by decide +kernel
theorem dX2_workedOut_142 : decode cX2_workedOut 142 = .ok (.goto 25, 3) := by decide +kernel
theorem dX2_workedOut_145 : decode cX2_workedOut 145 = .ok (.iload 6, 2) := by decide +kernel
theorem dX2_workedOut_147 : decode cX2_workedOut 147 = .ok (.iconst (-1), 1) := by decide +kernel
theorem dX2_workedOut_148 : decode cX2_workedOut 148 = .ok (.if_icmp .ne 7, 3) := by decide +kernel
theorem dX2_workedOut_151 : decode cX2_workedOut 151 = .ok (.iload_n 1, 1) := by decide +kernel
theorem dX2_workedOut_152 : decode cX2_workedOut 152 = .ok (.goto 15, 3) := by decide +kernel
theorem dX2_workedOut_155 : decode cX2_workedOut 155 = .ok (.iload 6, 2) := by decide +kernel
theorem dX2_workedOut_157 : decode cX2_workedOut 157 = .ok (.bipush (-2), 2) := by decide +kernel
theorem dX2_workedOut_159 : decode cX2_workedOut 159 = .ok (.if_icmp .ne 7, 3) := by decide +kernel
theorem dX2_workedOut_162 : decode cX2_workedOut 162 = .ok (.iload_n 2, 1) := by decide +kernel
theorem dX2_workedOut_163 : decode cX2_workedOut 163 = .ok (.goto 4, 3) := by decide +kernel
theorem dX2_workedOut_166 : decode cX2_workedOut 166 = .ok (.iload_n 3, 1) := by decide +kernel
theorem dX2_workedOut_167 : decode cX2_workedOut 167 = .ok (.iastore, 1) := by decide +kernel
theorem dX2_workedOut_168 : decode cX2_workedOut 168 = .ok (.iinc 4 1, 3) := by decide +kernel
theorem dX2_workedOut_171 : decode cX2_workedOut 171 = .ok (.iinc 5 1, 3) := by decide +kernel
theorem dX2_workedOut_174 : decode cX2_workedOut 174 = .ok (.goto (-168), 3) := by decide +kernel
theorem dX2_workedOut_177 : decode cX2_workedOut 177 = .ok (.aload_n 0, 1) := by decide +kernel
theorem dX2_workedOut_178 : decode cX2_workedOut 178 = .ok (.getfield 9, 3) := by decide +kernel
theorem dX2_workedOut_181 : decode cX2_workedOut 181 = .ok (.iconst 0, 1) := by decide +kernel
theorem dX2_workedOut_182 : decode cX2_workedOut 182 = .ok (.iaload, 1) := by decide +kernel
theorem dX2_workedOut_183 : decode cX2_workedOut 183 = .ok (.ireturn, 1) := by decide +kernel
theorem dX2_joined_0 : decode cX2_joined 0 = .ok (.iload_n 0, 1) := by decide +kernel
theorem dX2_joined_1 : decode cX2_joined 1 = .ok (.lookupswitch 183 #[(38, 100), (42, 167), (43, 159), (45, 163), (47, 171), (60, 117), (61, 131), (62, 145), (124, 83)], 83) := by decide +kernel
theorem dX2_joined_84 : decode cX2_joined 84 = .ok (.iload_n 1, 1) := by decide +kernel
theorem dX2_joined_85 : decode cX2_joined 85 = .ok (.ifCond .ne 7, 3) := by decide +kernel
theorem dX2_joined_88 : decode cX2_joined 88 = .ok (.iload_n 2, 1) := by decide +kernel
theorem dX2_joined_89 : decode cX2_joined 89 = .ok (.ifCond .eq 7, 3) := by decide +kernel
theorem dX2_joined_92 : decode cX2_joined 92 = .ok (.iconst 1, 1) := by decide +kernel
theorem dX2_joined_93 : decode cX2_joined 93 = .ok (.goto 4, 3) := by decide +kernel
theorem dX2_joined_96 : decode cX2_joined 96 = .ok (.iconst 0, 1) := by decide +kernel
theorem dX2_joined_97 : decode cX2_joined 97 = .ok (.invokestatic 50, 3) := by decide +kernel
theorem dX2_joined_100 : decode cX2_joined 100 = .ok (.ireturn, 1) := by decide +kernel
theorem dX2_joined_101 : decode cX2_joined 101 = .ok (.iload_n 1, 1) := by decide +kernel
theorem dX2_joined_102 : decode cX2_joined 102 = .ok (.ifCond .eq 11, 3) := by decide +kernel
theorem dX2_joined_105 : decode cX2_joined 105 = .ok (.iload_n 2, 1) := by decide +kernel
theorem dX2_joined_106 : decode cX2_joined 106 = .ok (.ifCond .eq 7, 3) := by decide +kernel
theorem dX2_joined_109 : decode cX2_joined 109 = .ok (.iconst 1, 1) := by decide +kernel
theorem dX2_joined_110 : decode cX2_joined 110 = .ok (.goto 4, 3) := by decide +kernel
theorem dX2_joined_113 : decode cX2_joined 113 = .ok (.iconst 0, 1) := by decide +kernel
theorem dX2_joined_114 : decode cX2_joined 114 = .ok (.invokestatic 50, 3) := by decide +kernel
theorem dX2_joined_117 : decode cX2_joined 117 = .ok (.ireturn, 1) := by decide +kernel
theorem dX2_joined_118 : decode cX2_joined 118 = .ok (.iload_n 1, 1) := by decide +kernel
theorem dX2_joined_119 : decode cX2_joined 119 = .ok (.iload_n 2, 1) := by decide +kernel
theorem dX2_joined_120 : decode cX2_joined 120 = .ok (.if_icmp .ge 7, 3) := by decide +kernel
theorem dX2_joined_123 : decode cX2_joined 123 = .ok (.iconst 1, 1) := by decide +kernel
theorem dX2_joined_124 : decode cX2_joined 124 = .ok (.goto 4, 3) := by decide +kernel
theorem dX2_joined_127 : decode cX2_joined 127 = .ok (.iconst 0, 1) := by decide +kernel
theorem dX2_joined_128 : decode cX2_joined 128 = .ok (.invokestatic 50, 3) := by decide +kernel
theorem dX2_joined_131 : decode cX2_joined 131 = .ok (.ireturn, 1) := by decide +kernel
theorem dX2_joined_132 : decode cX2_joined 132 = .ok (.iload_n 1, 1) := by decide +kernel
theorem dX2_joined_133 : decode cX2_joined 133 = .ok (.iload_n 2, 1) := by decide +kernel
theorem dX2_joined_134 : decode cX2_joined 134 = .ok (.if_icmp .ne 7, 3) := by decide +kernel
theorem dX2_joined_137 : decode cX2_joined 137 = .ok (.iconst 1, 1) := by decide +kernel
theorem dX2_joined_138 : decode cX2_joined 138 = .ok (.goto 4, 3) := by decide +kernel
theorem dX2_joined_141 : decode cX2_joined 141 = .ok (.iconst 0, 1) := by decide +kernel
theorem dX2_joined_142 : decode cX2_joined 142 = .ok (.invokestatic 50, 3) := by decide +kernel
theorem dX2_joined_145 : decode cX2_joined 145 = .ok (.ireturn, 1) := by decide +kernel
theorem dX2_joined_146 : decode cX2_joined 146 = .ok (.iload_n 1, 1) := by decide +kernel
theorem dX2_joined_147 : decode cX2_joined 147 = .ok (.iload_n 2, 1) := by decide +kernel
theorem dX2_joined_148 : decode cX2_joined 148 = .ok (.if_icmp .le 7, 3) := by decide +kernel
theorem dX2_joined_151 : decode cX2_joined 151 = .ok (.iconst 1, 1) := by decide +kernel
theorem dX2_joined_152 : decode cX2_joined 152 = .ok (.goto 4, 3) := by decide +kernel
theorem dX2_joined_155 : decode cX2_joined 155 = .ok (.iconst 0, 1) := by decide +kernel
theorem dX2_joined_156 : decode cX2_joined 156 = .ok (.invokestatic 50, 3) := by decide +kernel
theorem dX2_joined_159 : decode cX2_joined 159 = .ok (.ireturn, 1) := by decide +kernel
theorem dX2_joined_160 : decode cX2_joined 160 = .ok (.iload_n 1, 1) := by decide +kernel
theorem dX2_joined_161 : decode cX2_joined 161 = .ok (.iload_n 2, 1) := by decide +kernel
theorem dX2_joined_162 : decode cX2_joined 162 = .ok (.iadd, 1) := by decide +kernel
theorem dX2_joined_163 : decode cX2_joined 163 = .ok (.ireturn, 1) := by decide +kernel
theorem dX2_joined_164 : decode cX2_joined 164 = .ok (.iload_n 1, 1) := by decide +kernel
theorem dX2_joined_165 : decode cX2_joined 165 = .ok (.iload_n 2, 1) := by decide +kernel
theorem dX2_joined_166 : decode cX2_joined 166 = .ok (.isub, 1) := by decide +kernel
theorem dX2_joined_167 : decode cX2_joined 167 = .ok (.ireturn, 1) := by decide +kernel
theorem dX2_joined_168 : decode cX2_joined 168 = .ok (.iload_n 1, 1) := by decide +kernel
theorem dX2_joined_169 : decode cX2_joined 169 = .ok (.iload_n 2, 1) := by decide +kernel
theorem dX2_joined_170 : decode cX2_joined 170 = .ok (.imul, 1) := by decide +kernel
theorem dX2_joined_171 : decode cX2_joined 171 = .ok (.ireturn, 1) := by decide +kernel
theorem dX2_joined_172 : decode cX2_joined 172 = .ok (.iload_n 2, 1) := by decide +kernel
theorem dX2_joined_173 : decode cX2_joined 173 = .ok (.ifCond .ne 7, 3) := by decide +kernel
theorem dX2_joined_176 : decode cX2_joined 176 = .ok (.iconst 0, 1) := by decide +kernel
theorem dX2_joined_177 : decode cX2_joined 177 = .ok (.goto 6, 3) := by decide +kernel
theorem dX2_joined_180 : decode cX2_joined 180 = .ok (.iload_n 1, 1) := by decide +kernel
theorem dX2_joined_181 : decode cX2_joined 181 = .ok (.iload_n 2, 1) := by decide +kernel
theorem dX2_joined_182 : decode cX2_joined 182 = .ok (.idiv, 1) := by decide +kernel
theorem dX2_joined_183 : decode cX2_joined 183 = .ok (.ireturn, 1) := by decide +kernel
theorem dX2_joined_184 : decode cX2_joined 184 = .ok (.iload_n 2, 1) := by decide +kernel
theorem dX2_joined_185 : decode cX2_joined 185 = .ok (.ifCond .ne 7, 3) := by decide +kernel
theorem dX2_joined_188 : decode cX2_joined 188 = .ok (.iconst 0, 1) := by decide +kernel
theorem dX2_joined_189 : decode cX2_joined 189 = .ok (.goto 6, 3) := by decide +kernel
theorem dX2_joined_192 : decode cX2_joined 192 = .ok (.iload_n 1, 1) := by decide +kernel
theorem dX2_joined_193 : decode cX2_joined 193 = .ok (.iload_n 2, 1) := by decide +kernel
theorem dX2_joined_194 : decode cX2_joined 194 = .ok (.irem, 1) := by decide +kernel
theorem dX2_joined_195 : decode cX2_joined 195 = .ok (.ireturn, 1) := by decide +kernel
theorem dX2_truth_0 : decode cX2_truth 0 = .ok (.iload_n 0, 1) := by decide +kernel
theorem dX2_truth_1 : decode cX2_truth 1 = .ok (.ifCond .eq 7, 3) := by decide +kernel
theorem dX2_truth_4 : decode cX2_truth 4 = .ok (.iconst 1, 1) := by decide +kernel
theorem dX2_truth_5 : decode cX2_truth 5 = .ok (.goto 4, 3) := by decide +kernel
theorem dX2_truth_8 : decode cX2_truth 8 = .ok (.iconst 0, 1) := by decide +kernel
theorem dX2_truth_9 : decode cX2_truth 9 = .ok (.ireturn, 1) := by decide +kernel
theorem dX3_init_0 : decode cX3_init 0 = .ok (.aload_n 0, 1) := by decide +kernel
theorem dX3_init_1 : decode cX3_init 1 = .ok (.invokespecial 1, 3) := by decide +kernel
theorem dX3_init_4 : decode cX3_init 4 = .ok (.aload_n 0, 1) := by decide +kernel
theorem dX3_init_5 : decode cX3_init 5 = .ok (.iconst 4, 1) := by decide +kernel
theorem dX3_init_6 : decode cX3_init 6 = .ok (.anewarray 9, 3) := by decide +kernel
theorem dX3_init_9 : decode cX3_init 9 = .ok (.putfield 11, 3) := by decide +kernel
theorem dX3_init_12 : decode cX3_init 12 = .ok (.aload_n 0, 1) := by decide +kernel
theorem dX3_init_13 : decode cX3_init 13 = .ok (.bipush 6, 2) := by decide +kernel
theorem dX3_init_15 : decode cX3_init 15 = .ok (.newarray .int, 2) := by decide +kernel
theorem dX3_init_17 : decode cX3_init 17 = .ok (.putfield 15, 3) := by decide +kernel
theorem dX3_init_20 : decode cX3_init 20 = .ok (.aload_n 0, 1) := by decide +kernel
theorem dX3_init_21 : decode cX3_init 21 = .ok (.bipush 6, 2) := by decide +kernel
theorem dX3_init_23 : decode cX3_init 23 = .ok (.newarray .int, 2) := by decide +kernel
theorem dX3_init_25 : decode cX3_init 25 = .ok (.putfield 19, 3) := by decide +kernel
theorem dX3_init_28 : decode cX3_init 28 = .ok (.aload_n 0, 1) := by decide +kernel
theorem dX3_init_29 : decode cX3_init 29 = .ok (.iconst 1, 1) := by decide +kernel
theorem dX3_init_30 : decode cX3_init 30 = .ok (.putfield 22, 3) := by decide +kernel
theorem dX3_init_33 : decode cX3_init 33 = .ok (.aload_n 0, 1) := by decide +kernel
theorem dX3_init_34 : decode cX3_init 34 = .ok (.bipush 60, 2) := by decide +kernel
theorem dX3_init_36 : decode cX3_init 36 = .ok (.newarray .byte, 2) := by decide +kernel
theorem dX3_init_38 : decode cX3_init 38 = .ok (.putfield 26, 3) := by decide +kernel
theorem dX3_init_41 : decode cX3_init 41 = .ok (.aload_n 0, 1) := by decide +kernel
theorem dX3_init_42 : decode cX3_init 42 = .ok (.iconst 2, 1) := by decide +kernel
theorem dX3_init_43 : decode cX3_init 43 = .ok (.anewarray 30, 3) := by decide +kernel
theorem dX3_init_46 : decode cX3_init 46 = .ok (.putfield 32, 3) := by decide +kernel
theorem dX3_init_49 : decode cX3_init 49 = .ok (.aload_n 0, 1) := by decide +kernel
theorem dX3_init_50 : decode cX3_init 50 = .ok (.bipush 24, 2) := by decide +kernel
theorem dX3_init_52 : decode cX3_init 52 = .ok (.newarray .int, 2) := by decide +kernel
theorem dX3_init_54 : decode cX3_init 54 = .ok (.putfield 36, 3) := by decide +kernel
theorem dX3_init_57 : decode cX3_init 57 = .ok (.aload_n 0, 1) := by decide +kernel
theorem dX3_init_58 : decode cX3_init 58 = .ok (.iconst 4, 1) := by decide +kernel
theorem dX3_init_59 : decode cX3_init 59 = .ok (.newarray .long, 2) := by decide +kernel
theorem dX3_init_61 : decode cX3_init 61 = .ok (.putfield 39, 3) := by decide +kernel
theorem dX3_init_64 : decode cX3_init 64 = .ok (.iconst 0, 1) := by decide +kernel
theorem dX3_init_65 : decode cX3_init 65 = .ok (.istore_n 1, 1) := by decide +kernel
theorem dX3_init_66 : decode cX3_init 66 = .ok (.iload_n 1, 1) := by decide +kernel
theorem dX3_init_67 : decode cX3_init 67 = .ok (.iconst 4, 1) := by decide +kernel
theorem dX3_init_68 : decode cX3_init 68 = .ok (.if_icmp .ge 22, 3) := by decide +kernel
theorem dX3_init_71 : decode cX3_init 71 = .ok (.aload_n 0, 1) := by decide +kernel
theorem dX3_init_72 : decode cX3_init 72 = .ok (.getfield 11, 3) := by decide +kernel
theorem dX3_init_75 : decode cX3_init 75 = .ok (.iload_n 1, 1) := by decide +kernel
theorem dX3_init_76 : decode cX3_init 76 = .ok (.new 9, 3) := by decide +kernel
theorem dX3_init_79 : decode cX3_init 79 = .ok (.dup, 1) := by decide +kernel
theorem dX3_init_80 : decode cX3_init 80 = .ok (.invokespecial 43, 3) := by decide +kernel
theorem dX3_init_83 : decode cX3_init 83 = .ok (.aastore, 1) := by decide +kernel
theorem dX3_init_84 : decode cX3_init 84 = .ok (.iinc 1 1, 3) := by decide +kernel
theorem dX3_init_87 : decode cX3_init 87 = .ok (.goto (-21), 3) := by decide +kernel
theorem dX3_init_90 : decode cX3_init 90 = .ok (.aload_n 0, 1) := by decide +kernel
theorem dX3_init_91 : decode cX3_init 91 = .ok (.getfield 32, 3) := by decide +kernel
theorem dX3_init_94 : decode cX3_init 94 = .ok (.iconst 0, 1) := by decide +kernel
theorem dX3_init_95 : decode cX3_init 95 = .ok (.new 30, 3) := by decide +kernel
theorem dX3_init_98 : decode cX3_init 98 = .ok (.dup, 1) := by decide +kernel
theorem dX3_init_99 : decode cX3_init 99 = .ok (.iconst 0, 1) := by decide +kernel
theorem dX3_init_100 : decode cX3_init 100 = .ok (.invokespecial 44, 3) := by decide +kernel
theorem dX3_init_103 : decode cX3_init 103 = .ok (.aastore, 1) := by decide +kernel
theorem dX3_init_104 : decode cX3_init 104 = .ok (.aload_n 0, 1) := by decide +kernel
theorem dX3_init_105 : decode cX3_init 105 = .ok (.getfield 32, 3) := by decide +kernel
theorem dX3_init_108 : decode cX3_init 108 = .ok (.iconst 1, 1) := by decide +kernel
theorem dX3_init_109 : decode cX3_init 109 = .ok (.new 30, 3) := by decide +kernel
theorem dX3_init_112 : decode cX3_init 112 = .ok (.dup, 1) := by decide +kernel
theorem dX3_init_113 : decode cX3_init 113 = .ok (.iconst 1, 1) := by decide +kernel
theorem dX3_init_114 : decode cX3_init 114 = .ok (.invokespecial 44, 3) := by decide +kernel
theorem dX3_init_117 : decode cX3_init 117 = .ok (.aastore, 1) := by decide +kernel
theorem dX3_init_118 : decode cX3_init 118 = .ok (.return_, 1) := by decide +kernel
theorem dX3_takeAll_0 : decode cX3_takeAll 0 = .ok (.iconst 0, 1) := by decide +kernel
theorem dX3_takeAll_1 : decode cX3_takeAll 1 = .ok (.istore_n 2, 1) := by decide +kernel
theorem dX3_takeAll_2 : decode cX3_takeAll 2 = .ok (.iload_n 2, 1) := by decide +kernel
theorem dX3_takeAll_3 : decode cX3_takeAll 3 = .ok (.iconst 4, 1) := by decide +kernel
theorem dX3_takeAll_4 : decode cX3_takeAll 4 = .ok (.if_icmp .ge 24, 3) := by decide +kernel
theorem dX3_takeAll_7 : decode cX3_takeAll 7 = .ok (.aload_n 0, 1) := by decide +kernel
theorem dX3_takeAll_8 : decode cX3_takeAll 8 = .ok (.getfield 11, 3) := by decide +kernel
theorem dX3_takeAll_11 : decode cX3_takeAll 11 = .ok (.iload_n 2, 1) := by decide +kernel
theorem dX3_takeAll_12 : decode cX3_takeAll 12 = .ok (.aaload, 1) := by decide +kernel
theorem dX3_takeAll_13 : decode cX3_takeAll 13 = .ok (.aload_n 1, 1) := by decide +kernel
theorem dX3_takeAll_14 : decode cX3_takeAll 14 = .ok (.getfield 11, 3) := by decide +kernel
theorem dX3_takeAll_17 : decode cX3_takeAll 17 = .ok (.iload_n 2, 1) := by decide +kernel
theorem dX3_takeAll_18 : decode cX3_takeAll 18 = .ok (.aaload, 1) := by decide +kernel
theorem dX3_takeAll_19 : decode cX3_takeAll 19 = .ok (.invokevirtual 47, 3) := by decide +kernel
theorem dX3_takeAll_22 : decode cX3_takeAll 22 = .ok (.iinc 2 1, 3) := by decide +kernel
theorem dX3_takeAll_25 : decode cX3_takeAll 25 = .ok (.goto (-23), 3) := by decide +kernel
theorem dX3_takeAll_28 : decode cX3_takeAll 28 = .ok (.aload_n 0, 1) := by decide +kernel
theorem dX3_takeAll_29 : decode cX3_takeAll 29 = .ok (.aload_n 1, 1) := by decide +kernel
theorem dX3_takeAll_30 : decode cX3_takeAll 30 = .ok (.getfield 51, 3) := by decide +kernel
theorem dX3_takeAll_33 : decode cX3_takeAll 33 = .ok (.putfield 51, 3) := by decide +kernel
theorem dX3_takeAll_36 : decode cX3_takeAll 36 = .ok (.aload_n 1, 1) := by decide +kernel
theorem dX3_takeAll_37 : decode cX3_takeAll 37 = .ok (.getfield 15, 3) := by decide +kernel
theorem dX3_takeAll_40 : decode cX3_takeAll 40 = .ok (.iconst 0, 1) := by decide +kernel
theorem dX3_takeAll_41 : decode cX3_takeAll 41 = .ok (.aload_n 0, 1) := by decide +kernel
theorem dX3_takeAll_42 : decode cX3_takeAll 42 = .ok (.getfield 15, 3) := by decide +kernel
theorem dX3_takeAll_45 : decode cX3_takeAll 45 = .ok (.iconst 0, 1) := by decide +kernel
theorem dX3_takeAll_46 : decode cX3_takeAll 46 = .ok (.bipush 6, 2) := by decide +kernel
theorem dX3_takeAll_48 : decode cX3_takeAll 48 = .ok (.invokestatic 54, 3) := by decide +kernel
theorem dX3_takeAll_51 : decode cX3_takeAll 51 = .ok (.aload_n 1, 1) := by decide +kernel
theorem dX3_takeAll_52 : decode cX3_takeAll 52 = .ok (.getfield 19, 3) := by decide +kernel
theorem dX3_takeAll_55 : decode cX3_takeAll 55 = .ok (.iconst 0, 1) := by decide +kernel
theorem dX3_takeAll_56 : decode cX3_takeAll 56 = .ok (.aload_n 0, 1) := by decide +kernel
theorem dX3_takeAll_57 : decode cX3_takeAll 57 = .ok (.getfield 19, 3) := by decide +kernel
theorem dX3_takeAll_60 : decode cX3_takeAll 60 = .ok (.iconst 0, 1) := by decide +kernel
theorem dX3_takeAll_61 : decode cX3_takeAll 61 = .ok (.bipush 6, 2) := by decide +kernel
theorem dX3_takeAll_63 : decode cX3_takeAll 63 = .ok (.invokestatic 54, 3) := by decide +kernel
theorem dX3_takeAll_66 : decode cX3_takeAll 66 = .ok (.aload_n 0, 1) := by decide +kernel
theorem dX3_takeAll_67 : decode cX3_takeAll 67 = .ok (.aload_n 1, 1) := by decide +kernel
theorem dX3_takeAll_68 : decode cX3_takeAll 68 = .ok (.getfield 60, 3) := by decide +kernel
theorem dX3_takeAll_71 : decode cX3_takeAll 71 = .ok (.putfield 60, 3) := by decide +kernel
theorem dX3_takeAll_74 : decode cX3_takeAll 74 = .ok (.aload_n 0, 1) := by decide +kernel
theorem dX3_takeAll_75 : decode cX3_takeAll 75 = .ok (.aload_n 1, 1) := by decide +kernel
theorem dX3_takeAll_76 : decode cX3_takeAll 76 = .ok (.getfield 63, 3) := by decide +kernel
theorem dX3_takeAll_79 : decode cX3_takeAll 79 = .ok (.putfield 63, 3) := by decide +kernel
theorem dX3_takeAll_82 : decode cX3_takeAll 82 = .ok (.aload_n 0, 1) := by decide +kernel
theorem dX3_takeAll_83 : decode cX3_takeAll 83 = .ok (.aload_n 1, 1) := by decide +kernel
theorem dX3_takeAll_84 : decode cX3_takeAll 84 = .ok (.getfield 67, 3) := by decide +kernel
theorem dX3_takeAll_87 : decode cX3_takeAll 87 = .ok (.putfield 67, 3) := by decide +kernel
theorem dX3_takeAll_90 : decode cX3_takeAll 90 = .ok (.aload_n 0, 1) := by decide +kernel
theorem dX3_takeAll_91 : decode cX3_takeAll 91 = .ok (.aload_n 1, 1) := by decide +kernel
theorem dX3_takeAll_92 : decode cX3_takeAll 92 = .ok (.getfield 70, 3) := by decide +kernel
theorem dX3_takeAll_95 : decode cX3_takeAll 95 = .ok (.putfield 70, 3) := by decide +kernel
theorem dX3_takeAll_98 : decode cX3_takeAll 98 = .ok (.aload_n 0, 1) := by decide +kernel
theorem dX3_takeAll_99 : decode cX3_takeAll 99 = .ok (.aload_n 1, 1) := by decide +kernel
theorem dX3_takeAll_100 : decode cX3_takeAll 100 = .ok (.getfield 22, 3) := by decide +kernel
theorem dX3_takeAll_103 : decode cX3_takeAll 103 = .ok (.putfield 22, 3) := by decide +kernel
theorem dX3_takeAll_106 : decode cX3_takeAll 106 = .ok (.aload_n 1, 1) := by decide +kernel
theorem dX3_takeAll_107 : decode cX3_takeAll 107 = .ok (.getfield 26, 3) := by decide +kernel
theorem dX3_takeAll_110 : decode cX3_takeAll 110 = .ok (.iconst 0, 1) := by decide +kernel
theorem dX3_takeAll_111 : decode cX3_takeAll 111 = .ok (.aload_n 0, 1) := by decide +kernel
theorem dX3_takeAll_112 : decode cX3_takeAll 112 = .ok (.getfield 26, 3) := by decide +kernel
theorem dX3_takeAll_115 : decode cX3_takeAll 115 = .ok (.iconst 0, 1) := by decide +kernel
theorem dX3_takeAll_116 : decode cX3_takeAll 116 = .ok (.bipush 60, 2) := by decide +kernel
theorem dX3_takeAll_118 : decode cX3_takeAll 118 = .ok (.invokestatic 54, 3) := by decide +kernel
theorem dX3_takeAll_121 : decode cX3_takeAll 121 = .ok (.aload_n 0, 1) := by decide +kernel
theorem dX3_takeAll_122 : decode cX3_takeAll 122 = .ok (.aload_n 1, 1) := by decide +kernel
theorem dX3_takeAll_123 : decode cX3_takeAll 123 = .ok (.getfield 73, 3) := by decide +kernel
theorem dX3_takeAll_126 : decode cX3_takeAll 126 = .ok (.putfield 73, 3) := by decide +kernel
theorem dX3_takeAll_129 : decode cX3_takeAll 129 = .ok (.iconst 0, 1) := by decide +kernel
theorem dX3_takeAll_130 : decode cX3_takeAll 130 = .ok (.istore_n 2, 1) := by decide +kernel
theorem dX3_takeAll_131 : decode cX3_takeAll 131 = .ok (.iload_n 2, 1) := by decide +kernel
theorem dX3_takeAll_132 : decode cX3_takeAll 132 = .ok (.aload_n 0, 1) := by decide +kernel
theorem dX3_takeAll_133 : decode cX3_takeAll 133 = .ok (.getfield 32, 3) := by decide +kernel
theorem dX3_takeAll_136 : decode cX3_takeAll 136 = .ok (.arraylength, 1) := by decide +kernel
theorem dX3_takeAll_137 : decode cX3_takeAll 137 = .ok (.if_icmp .ge 36, 3) := by decide +kernel
theorem dX3_takeAll_140 : decode cX3_takeAll 140 = .ok (.aload_n 0, 1) := by decide +kernel
theorem dX3_takeAll_141 : decode cX3_takeAll 141 = .ok (.getfield 32, 3) := by decide +kernel
theorem dX3_takeAll_144 : decode cX3_takeAll 144 = .ok (.iload_n 2, 1) := by decide +kernel
theorem dX3_takeAll_145 : decode cX3_takeAll 145 = .ok (.aaload, 1) := by decide +kernel
theorem dX3_takeAll_146 : decode cX3_takeAll 146 = .ok (.aload_n 1, 1) := by decide +kernel
theorem dX3_takeAll_147 : decode cX3_takeAll 147 = .ok (.getfield 32, 3) := by decide +kernel
theorem dX3_takeAll_150 : decode cX3_takeAll 150 = .ok (.iload_n 2, 1) := by decide +kernel
theorem dX3_takeAll_151 : decode cX3_takeAll 151 = .ok (.aaload, 1) := by decide +kernel
theorem dX3_takeAll_152 : decode cX3_takeAll 152 = .ok (.getfield 76, 3) := by decide +kernel
theorem dX3_takeAll_155 : decode cX3_takeAll 155 = .ok (.aload_n 1, 1) := by decide +kernel
theorem dX3_takeAll_156 : decode cX3_takeAll 156 = .ok (.getfield 32, 3) := by decide +kernel
theorem dX3_takeAll_159 : decode cX3_takeAll 159 = .ok (.iload_n 2, 1) := by decide +kernel
theorem dX3_takeAll_160 : decode cX3_takeAll 160 = .ok (.aaload, 1) := by decide +kernel
theorem dX3_takeAll_161 : decode cX3_takeAll 161 = .ok (.getfield 79, 3) := by decide +kernel
theorem dX3_takeAll_164 : decode cX3_takeAll 164 = .ok (.invokevirtual 82, 3) := by decide +kernel
theorem dX3_takeAll_167 : decode cX3_takeAll 167 = .ok (.iinc 2 1, 3) := by decide +kernel
theorem dX3_takeAll_170 : decode cX3_takeAll 170 = .ok (.goto (-39), 3) := by decide +kernel
theorem dX3_takeAll_173 : decode cX3_takeAll 173 = .ok (.aload_n 1, 1) := by decide +kernel
theorem dX3_takeAll_174 : decode cX3_takeAll 174 = .ok (.getfield 36, 3) := by decide +kernel
theorem dX3_takeAll_177 : decode cX3_takeAll 177 = .ok (.iconst 0, 1) := by decide +kernel
theorem dX3_takeAll_178 : decode cX3_takeAll 178 = .ok (.aload_n 0, 1) := by decide +kernel
theorem dX3_takeAll_179 : decode cX3_takeAll 179 = .ok (.getfield 36, 3) := by decide +kernel
theorem dX3_takeAll_182 : decode cX3_takeAll 182 = .ok (.iconst 0, 1) := by decide +kernel
theorem dX3_takeAll_183 : decode cX3_takeAll 183 = .ok (.bipush 24, 2) := by decide +kernel
theorem dX3_takeAll_185 : decode cX3_takeAll 185 = .ok (.invokestatic 54, 3) := by decide +kernel
theorem dX3_takeAll_188 : decode cX3_takeAll 188 = .ok (.aload_n 0, 1) := by decide +kernel
theorem dX3_takeAll_189 : decode cX3_takeAll 189 = .ok (.aload_n 1, 1) := by decide +kernel
theorem dX3_takeAll_190 : decode cX3_takeAll 190 = .ok (.getfield 86, 3) := by decide +kernel
theorem dX3_takeAll_193 : decode cX3_takeAll 193 = .ok (.putfield 86, 3) := by decide +kernel
theorem dX3_takeAll_196 : decode cX3_takeAll 196 = .ok (.return_, 1) := by decide +kernel
theorem dX3_postsMove_0 : decode cX3_postsMove 0 = .ok (.iconst 0, 1) := by decide +kernel
theorem dX3_postsMove_1 : decode cX3_postsMove 1 = .ok (.istore_n 1, 1) := by decide +kernel
theorem dX3_postsMove_2 : decode cX3_postsMove 2 = .ok (.iload_n 1, 1) := by decide +kernel
theorem dX3_postsMove_3 : decode cX3_postsMove 3 = .ok (.aload_n 0, 1) := by decide +kernel
theorem dX3_postsMove_4 : decode cX3_postsMove 4 = .ok (.getfield 51, 3) := by decide +kernel
theorem dX3_postsMove_7 : decode cX3_postsMove 7 = .ok (.if_icmp .ge 30, 3) := by decide +kernel
theorem dX3_postsMove_10 : decode cX3_postsMove 10 = .ok (.aload_n 0, 1) := by decide +kernel
theorem dX3_postsMove_11 : decode cX3_postsMove 11 = .ok (.getfield 11, 3) := by decide +kernel
theorem dX3_postsMove_14 : decode cX3_postsMove 14 = .ok (.iload_n 1, 1) := by decide +kernel
theorem dX3_postsMove_15 : decode cX3_postsMove 15 = .ok (.aaload, 1) := by decide +kernel
theorem dX3_postsMove_16 : decode cX3_postsMove 16 = .ok (.aload_n 0, 1) := by decide +kernel
theorem dX3_postsMove_17 : decode cX3_postsMove 17 = .ok (.getfield 63, 3) := by decide +kernel
theorem dX3_postsMove_20 : decode cX3_postsMove 20 = .ok (.aload_n 0, 1) := by decide +kernel
theorem dX3_postsMove_21 : decode cX3_postsMove 21 = .ok (.getfield 67, 3) := by decide +kernel
theorem dX3_postsMove_24 : decode cX3_postsMove 24 = .ok (.aload_n 0, 1) := by decide +kernel
theorem dX3_postsMove_25 : decode cX3_postsMove 25 = .ok (.getfield 70, 3) := by decide +kernel
theorem dX3_postsMove_28 : decode cX3_postsMove 28 = .ok (.invokevirtual 89, 3) := by decide +kernel
theorem dX3_postsMove_31 : decode cX3_postsMove 31 = .ok (.iinc 1 1, 3) := by decide +kernel
theorem dX3_postsMove_34 : decode cX3_postsMove 34 = .ok (.goto (-32), 3) := by decide +kernel
theorem dX3_postsMove_37 : decode cX3_postsMove 37 = .ok (.aload_n 0, 1) := by decide +kernel
theorem dX3_postsMove_38 : decode cX3_postsMove 38 = .ok (.dup, 1) := by decide +kernel
theorem dX3_postsMove_39 : decode cX3_postsMove 39 = .ok (.getfield 70, 3) := by decide +kernel
theorem dX3_postsMove_42 : decode cX3_postsMove 42 = .ok (.iconst 1, 1) := by decide +kernel
theorem dX3_postsMove_43 : decode cX3_postsMove 43 = .ok (.iadd, 1) := by decide +kernel
theorem dX3_postsMove_44 : decode cX3_postsMove 44 = .ok (.putfield 70, 3) := by decide +kernel
theorem dX3_postsMove_47 : decode cX3_postsMove 47 = .ok (.return_, 1) := by decide +kernel
theorem dX3_dawnsCome_0 : decode cX3_dawnsCome 0 = .ok (.iconst 0, 1) := by decide +kernel
theorem dX3_dawnsCome_1 : decode cX3_dawnsCome 1 = .ok (.istore_n 2, 1) := by decide +kernel
theorem dX3_dawnsCome_2 : decode cX3_dawnsCome 2 = .ok (.iload_n 2, 1) := by decide +kernel
theorem dX3_dawnsCome_3 : decode cX3_dawnsCome 3 = .ok (.iload_n 1, 1) := by decide +kernel
theorem dX3_dawnsCome_4 : decode cX3_dawnsCome 4 = .ok (.if_icmp .ge 25, 3) := by decide +kernel
theorem dX3_dawnsCome_7 : decode cX3_dawnsCome 7 = .ok (.aload_n 0, 1) := by decide +kernel
theorem dX3_dawnsCome_8 : decode cX3_dawnsCome 8 = .ok (.invokevirtual 93, 3) := by decide +kernel
theorem dX3_dawnsCome_11 : decode cX3_dawnsCome 11 = .ok (.aload_n 0, 1) := by decide +kernel
theorem dX3_dawnsCome_12 : decode cX3_dawnsCome 12 = .ok (.invokevirtual 95, 3) := by decide +kernel
theorem dX3_dawnsCome_15 : decode cX3_dawnsCome 15 = .ok (.aload_n 0, 1) := by decide +kernel
theorem dX3_dawnsCome_16 : decode cX3_dawnsCome 16 = .ok (.invokevirtual 98, 3) := by decide +kernel
theorem dX3_dawnsCome_19 : decode cX3_dawnsCome 19 = .ok (.aload_n 0, 1) := by decide +kernel
theorem dX3_dawnsCome_20 : decode cX3_dawnsCome 20 = .ok (.invokevirtual 101, 3) := by decide +kernel
theorem dX3_dawnsCome_23 : decode cX3_dawnsCome 23 = .ok (.iinc 2 1, 3) := by decide +kernel
theorem dX3_dawnsCome_26 : decode cX3_dawnsCome 26 = .ok (.goto (-24), 3) := by decide +kernel
theorem dX3_dawnsCome_29 : decode cX3_dawnsCome 29 = .ok (.return_, 1) := by decide +kernel
theorem dX3_fencesGraze_0 : decode cX3_fencesGraze 0 = .ok (.iconst 0, 1) := by decide +kernel
theorem dX3_fencesGraze_1 : decode cX3_fencesGraze 1 = .ok (.istore_n 1, 1) := by decide +kernel
theorem dX3_fencesGraze_2 : decode cX3_fencesGraze 2 = .ok (.iload_n 1, 1) := by decide +kernel
theorem dX3_fencesGraze_3 : decode cX3_fencesGraze 3 = .ok (.aload_n 0, 1) := by decide +kernel
theorem dX3_fencesGraze_4 : decode cX3_fencesGraze 4 = .ok (.getfield 51, 3) := by decide +kernel
theorem dX3_fencesGraze_7 : decode cX3_fencesGraze 7 = .ok (.if_icmp .ge 41, 3) := by decide +kernel
theorem dX3_fencesGraze_10 : decode cX3_fencesGraze 10 = .ok (.aload_n 0, 1) := by decide +kernel
theorem dX3_fencesGraze_11 : decode cX3_fencesGraze 11 = .ok (.getfield 11, 3) := by decide +kernel
theorem dX3_fencesGraze_14 : decode cX3_fencesGraze 14 = .ok (.iload_n 1, 1) := by decide +kernel
theorem dX3_fencesGraze_15 : decode cX3_fencesGraze 15 = .ok (.aaload, 1) := by decide +kernel
theorem dX3_fencesGraze_16 : decode cX3_fencesGraze 16 = .ok (.astore_n 2, 1) := by decide +kernel
theorem dX3_fencesGraze_17 : decode cX3_fencesGraze 17 = .ok (.aload_n 2, 1) := by decide +kernel
theorem dX3_fencesGraze_18 : decode cX3_fencesGraze 18 = .ok (.ldc 104, 2) := by decide +kernel
theorem dX3_fencesGraze_20 : decode cX3_fencesGraze 20 = .ok (.aload_n 2, 1) := by decide +kernel
theorem dX3_fencesGraze_21 : decode cX3_fencesGraze 21 = .ok (.getfield 105, 3) := by decide +kernel
theorem dX3_fencesGraze_24 : decode cX3_fencesGraze 24 = .ok (.aload_n 0, 1) := by decide +kernel
theorem dX3_fencesGraze_25 : decode cX3_fencesGraze 25 = .ok (.aload_n 2, 1) := by decide +kernel
theorem dX3_fencesGraze_26 : decode cX3_fencesGraze 26 = .ok (.aload_n 0, 1) := by decide +kernel
theorem dX3_fencesGraze_27 : decode cX3_fencesGraze 27 = .ok (.getfield 39, 3) := by decide +kernel
theorem dX3_fencesGraze_30 : decode cX3_fencesGraze 30 = .ok (.iload_n 1, 1) := by decide +kernel
theorem dX3_fencesGraze_31 : decode cX3_fencesGraze 31 = .ok (.laload, 1) := by decide +kernel
theorem dX3_fencesGraze_32 : decode cX3_fencesGraze 32 = .ok (.invokevirtual 108, 3) := by decide +kernel
theorem dX3_fencesGraze_35 : decode cX3_fencesGraze 35 = .ok (.iadd, 1) := by decide +kernel
theorem dX3_fencesGraze_36 : decode cX3_fencesGraze 36 = .ok (.invokestatic 112, 3) := by decide +kernel
theorem dX3_fencesGraze_39 : decode cX3_fencesGraze 39 = .ok (.putfield 105, 3) := by decide +kernel
theorem dX3_fencesGraze_42 : decode cX3_fencesGraze 42 = .ok (.iinc 1 1, 3) := by decide +kernel
theorem dX3_fencesGraze_45 : decode cX3_fencesGraze 45 = .ok (.goto (-43), 3) := by decide +kernel
theorem dX3_fencesGraze_48 : decode cX3_fencesGraze 48 = .ok (.return_, 1) := by decide +kernel
theorem dX3_cattleFeed_0 : decode cX3_cattleFeed 0 = .ok (.iconst 0, 1) := by decide +kernel
theorem dX3_cattleFeed_1 : decode cX3_cattleFeed 1 = .ok (.istore_n 1, 1) := by decide +kernel
theorem dX3_cattleFeed_2 : decode cX3_cattleFeed 2 = .ok (.iload_n 1, 1) := by decide +kernel
theorem dX3_cattleFeed_3 : decode cX3_cattleFeed 3 = .ok (.aload_n 0, 1) := by decide +kernel
theorem dX3_cattleFeed_4 : decode cX3_cattleFeed 4 = .ok (.getfield 60, 3) := by decide +kernel
theorem dX3_cattleFeed_7 : decode cX3_cattleFeed 7 = .ok (.if_icmp .ge 66, 3) := by decide +kernel
theorem dX3_cattleFeed_10 : decode cX3_cattleFeed 10 = .ok (.aload_n 0, 1) := by decide +kernel
theorem dX3_cattleFeed_11 : decode cX3_cattleFeed 11 = .ok (.getfield 32, 3) := by decide +kernel
theorem dX3_cattleFeed_14 : decode cX3_cattleFeed 14 = .ok (.iconst 1, 1) := by decide +kernel
theorem dX3_cattleFeed_15 : decode cX3_cattleFeed 15 = .ok (.aaload, 1) := by decide +kernel
theorem dX3_cattleFeed_16 : decode cX3_cattleFeed 16 = .ok (.aload_n 0, 1) := by decide +kernel
theorem dX3_cattleFeed_17 : decode cX3_cattleFeed 17 = .ok (.getfield 15, 3) := by decide +kernel
theorem dX3_cattleFeed_20 : decode cX3_cattleFeed 20 = .ok (.iload_n 1, 1) := by decide +kernel
theorem dX3_cattleFeed_21 : decode cX3_cattleFeed 21 = .ok (.iaload, 1) := by decide +kernel
theorem dX3_cattleFeed_22 : decode cX3_cattleFeed 22 = .ok (.aload_n 0, 1) := by decide +kernel
theorem dX3_cattleFeed_23 : decode cX3_cattleFeed 23 = .ok (.aload_n 0, 1) := by decide +kernel
theorem dX3_cattleFeed_24 : decode cX3_cattleFeed 24 = .ok (.getfield 15, 3) := by decide +kernel
theorem dX3_cattleFeed_27 : decode cX3_cattleFeed 27 = .ok (.iload_n 1, 1) := by decide +kernel
theorem dX3_cattleFeed_28 : decode cX3_cattleFeed 28 = .ok (.iaload, 1) := by decide +kernel
theorem dX3_cattleFeed_29 : decode cX3_cattleFeed 29 = .ok (.invokevirtual 118, 3) := by decide +kernel
theorem dX3_cattleFeed_32 : decode cX3_cattleFeed 32 = .ok (.aload_n 0, 1) := by decide +kernel
theorem dX3_cattleFeed_33 : decode cX3_cattleFeed 33 = .ok (.getfield 70, 3) := by decide +kernel
theorem dX3_cattleFeed_36 : decode cX3_cattleFeed 36 = .ok (.bipush 7, 2) := by decide +kernel
theorem dX3_cattleFeed_38 : decode cX3_cattleFeed 38 = .ok (.irem, 1) := by decide +kernel
theorem dX3_cattleFeed_39 : decode cX3_cattleFeed 39 = .ok (.invokevirtual 122, 3) := by decide +kernel
theorem dX3_cattleFeed_42 : decode cX3_cattleFeed 42 = .ok (.istore_n 2, 1) := by decide +kernel
theorem dX3_cattleFeed_43 : decode cX3_cattleFeed 43 = .ok (.aload_n 0, 1) := by decide +kernel
theorem dX3_cattleFeed_44 : decode cX3_cattleFeed 44 = .ok (.getfield 19, 3) := by decide +kernel
theorem dX3_cattleFeed_47 : decode cX3_cattleFeed 47 = .ok (.iload_n 1, 1) := by decide +kernel
theorem dX3_cattleFeed_48 : decode cX3_cattleFeed 48 = .ok (.iconst 0, 1) := by decide +kernel
theorem dX3_cattleFeed_49 : decode cX3_cattleFeed 49 = .ok (.sipush 999, 3) := by decide +kernel
theorem dX3_cattleFeed_52 : decode cX3_cattleFeed 52 = .ok (.aload_n 0, 1) := by decide +kernel
theorem dX3_cattleFeed_53 : decode cX3_cattleFeed 53 = .ok (.getfield 19, 3) := by decide +kernel
theorem dX3_cattleFeed_56 : decode cX3_cattleFeed 56 = .ok (.iload_n 1, 1) := by decide +kernel
theorem dX3_cattleFeed_57 : decode cX3_cattleFeed 57 = .ok (.iaload, 1) := by decide +kernel
theorem dX3_cattleFeed_58 : decode cX3_cattleFeed 58 = .ok (.iload_n 2, 1) := by decide +kernel
theorem dX3_cattleFeed_59 : decode cX3_cattleFeed 59 = .ok (.iadd, 1) := by decide +kernel
theorem dX3_cattleFeed_60 : decode cX3_cattleFeed 60 = .ok (.invokestatic 112, 3) := by decide +kernel
theorem dX3_cattleFeed_63 : decode cX3_cattleFeed 63 = .ok (.invokestatic 126, 3) := by decide +kernel
theorem dX3_cattleFeed_66 : decode cX3_cattleFeed 66 = .ok (.iastore, 1) := by decide +kernel
theorem dX3_cattleFeed_67 : decode cX3_cattleFeed 67 = .ok (.iinc 1 1, 3) := by decide +kernel
theorem dX3_cattleFeed_70 : decode cX3_cattleFeed 70 = .ok (.goto (-68), 3) := by decide +kernel
theorem dX3_cattleFeed_73 : decode cX3_cattleFeed 73 = .ok (.return_, 1) := by decide +kernel
theorem dX3_graze_0 : decode cX3_graze 0 = .ok (.aload_n 0, 1) := by decide +kernel
theorem dX3_graze_1 : decode cX3_graze 1 = .ok (.getfield 32, 3) := by decide +kernel
theorem dX3_graze_4 : decode cX3_graze 4 = .ok (.iconst 0, 1) := by decide +kernel
theorem dX3_graze_5 : decode cX3_graze 5 = .ok (.aaload, 1) := by decide +kernel
theorem dX3_graze_6 : decode cX3_graze 6 = .ok (.lload_n 2, 1) := by decide +kernel
theorem dX3_graze_7 : decode cX3_graze 7 = .ok (.invokestatic 129, 3) := by decide +kernel
theorem dX3_graze_10 : decode cX3_graze 10 = .ok (.aload_n 1, 1) := by decide +kernel
theorem dX3_graze_11 : decode cX3_graze 11 = .ok (.getfield 135, 3) := by decide +kernel
theorem dX3_graze_14 : decode cX3_graze 14 = .ok (.aload_n 1, 1) := by decide +kernel
theorem dX3_graze_15 : decode cX3_graze 15 = .ok (.getfield 138, 3) := by decide +kernel
theorem dX3_graze_18 : decode cX3_graze 18 = .ok (.invokevirtual 122, 3) := by decide +kernel
theorem dX3_graze_21 : decode cX3_graze 21 = .ok (.ireturn, 1) := by decide +kernel
theorem dX3_strayByDraws_0 : decode cX3_strayByDraws 0 = .ok (.aload_n 0, 1) := by decide +kernel
theorem dX3_strayByDraws_1 : decode cX3_strayByDraws 1 = .ok (.dup, 1) := by decide +kernel
theorem dX3_strayByDraws_2 : decode cX3_strayByDraws 2 = .ok (.getfield 63, 3) := by decide +kernel
theorem dX3_strayByDraws_5 : decode cX3_strayByDraws 5 = .ok (.aload_n 0, 1) := by decide +kernel
theorem dX3_strayByDraws_6 : decode cX3_strayByDraws 6 = .ok (.invokevirtual 141, 3) := by decide +kernel
theorem dX3_strayByDraws_9 : decode cX3_strayByDraws 9 = .ok (.bipush 64, 2) := by decide +kernel
theorem dX3_strayByDraws_11 : decode cX3_strayByDraws 11 = .ok (.irem, 1) := by decide +kernel
theorem dX3_strayByDraws_12 : decode cX3_strayByDraws 12 = .ok (.invokestatic 147, 3) := by decide +kernel
theorem dX3_strayByDraws_15 : decode cX3_strayByDraws 15 = .ok (.lxor, 1) := by decide +kernel
theorem dX3_strayByDraws_16 : decode cX3_strayByDraws 16 = .ok (.putfield 63, 3) := by decide +kernel
theorem dX3_strayByDraws_19 : decode cX3_strayByDraws 19 = .ok (.aload_n 0, 1) := by decide +kernel
theorem dX3_strayByDraws_20 : decode cX3_strayByDraws 20 = .ok (.getfield 60, 3) := by decide +kernel
theorem dX3_strayByDraws_23 : decode cX3_strayByDraws 23 = .ok (.ifCond .le 40, 3) := by decide +kernel
theorem dX3_strayByDraws_26 : decode cX3_strayByDraws 26 = .ok (.aload_n 0, 1) := by decide +kernel
theorem dX3_strayByDraws_27 : decode cX3_strayByDraws 27 = .ok (.invokevirtual 141, 3) := by decide +kernel
theorem dX3_strayByDraws_30 : decode cX3_strayByDraws 30 = .ok (.aload_n 0, 1) := by decide +kernel
theorem dX3_strayByDraws_31 : decode cX3_strayByDraws 31 = .ok (.getfield 60, 3) := by decide +kernel
theorem dX3_strayByDraws_34 : decode cX3_strayByDraws 34 = .ok (.irem, 1) := by decide +kernel
theorem dX3_strayByDraws_35 : decode cX3_strayByDraws 35 = .ok (.istore_n 1, 1) := by decide +kernel
theorem dX3_strayByDraws_36 : decode cX3_strayByDraws 36 = .ok (.aload_n 0, 1) := by decide +kernel
theorem dX3_strayByDraws_37 : decode cX3_strayByDraws 37 = .ok (.getfield 15, 3) := by decide +kernel
theorem dX3_strayByDraws_40 : decode cX3_strayByDraws 40 = .ok (.iload_n 1, 1) := by decide +kernel
theorem dX3_strayByDraws_41 : decode cX3_strayByDraws 41 = .ok (.iaload, 1) := by decide +kernel
theorem dX3_strayByDraws_42 : decode cX3_strayByDraws 42 = .ok (.aload_n 0, 1) := by decide +kernel
theorem dX3_strayByDraws_43 : decode cX3_strayByDraws 43 = .ok (.invokevirtual 141, 3) := by decide +kernel
theorem dX3_strayByDraws_46 : decode cX3_strayByDraws 46 = .ok (.iconst 4, 1) := by decide +kernel
theorem dX3_strayByDraws_47 : decode cX3_strayByDraws 47 = .ok (.irem, 1) := by decide +kernel
theorem dX3_strayByDraws_48 : decode cX3_strayByDraws 48 = .ok (.invokestatic 151, 3) := by decide +kernel
theorem dX3_strayByDraws_51 : decode cX3_strayByDraws 51 = .ok (.istore_n 2, 1) := by decide +kernel
theorem dX3_strayByDraws_52 : decode cX3_strayByDraws 52 = .ok (.iload_n 2, 1) := by decide +kernel
theorem dX3_strayByDraws_53 : decode cX3_strayByDraws 53 = .ok (.ifCond .lt 10, 3) := by decide +kernel
theorem dX3_strayByDraws_56 : decode cX3_strayByDraws 56 = .ok (.aload_n 0, 1) := by decide +kernel
theorem dX3_strayByDraws_57 : decode cX3_strayByDraws 57 = .ok (.getfield 15, 3) := by decide +kernel
theorem dX3_strayByDraws_60 : decode cX3_strayByDraws 60 = .ok (.iload_n 1, 1) := by decide +kernel
theorem dX3_strayByDraws_61 : decode cX3_strayByDraws 61 = .ok (.iload_n 2, 1) := by decide +kernel
theorem dX3_strayByDraws_62 : decode cX3_strayByDraws 62 = .ok (.iastore, 1) := by decide +kernel
theorem dX3_strayByDraws_63 : decode cX3_strayByDraws 63 = .ok (.return_, 1) := by decide +kernel
theorem dX3_draw_0 : decode cX3_draw 0 = .ok (.aload_n 0, 1) := by decide +kernel
theorem dX3_draw_1 : decode cX3_draw 1 = .ok (.aload_n 0, 1) := by decide +kernel
theorem dX3_draw_2 : decode cX3_draw 2 = .ok (.getfield 22, 3) := by decide +kernel
theorem dX3_draw_5 : decode cX3_draw 5 = .ok (.ldc 154, 2) := by decide +kernel
theorem dX3_draw_7 : decode cX3_draw 7 = .ok (.imul, 1) := by decide +kernel
theorem dX3_draw_8 : decode cX3_draw 8 = .ok (.sipush 12345, 3) := by decide +kernel
theorem dX3_draw_11 : decode cX3_draw 11 = .ok (.iadd, 1) := by decide +kernel
theorem dX3_draw_12 : decode cX3_draw 12 = .ok (.putfield 22, 3) := by decide +kernel
theorem dX3_draw_15 : decode cX3_draw 15 = .ok (.aload_n 0, 1) := by decide +kernel
theorem dX3_draw_16 : decode cX3_draw 16 = .ok (.getfield 22, 3) := by decide +kernel
theorem dX3_draw_19 : decode cX3_draw 19 = .ok (.bipush 8, 2) := by decide +kernel
theorem dX3_draw_21 : decode cX3_draw 21 = .ok (.iushr, 1) := by decide +kernel
theorem dX3_draw_22 : decode cX3_draw 22 = .ok (.ireturn, 1) := by decide +kernel
theorem dX3_standing_0 : decode cX3_standing 0 = .ok (.lconst 0, 1) := by decide +kernel
theorem dX3_standing_1 : decode cX3_standing 1 = .ok (.lstore_n 1, 1) := by decide +kernel
theorem dX3_standing_2 : decode cX3_standing 2 = .ok (.iconst 0, 1) := by decide +kernel
theorem dX3_standing_3 : decode cX3_standing 3 = .ok (.istore_n 3, 1) := by decide +kernel
theorem dX3_standing_4 : decode cX3_standing 4 = .ok (.iload_n 3, 1) := by decide +kernel
theorem dX3_standing_5 : decode cX3_standing 5 = .ok (.aload_n 0, 1) := by decide +kernel
theorem dX3_standing_6 : decode cX3_standing 6 = .ok (.getfield 51, 3) := by decide +kernel
theorem dX3_standing_9 : decode cX3_standing 9 = .ok (.if_icmp .ge 21, 3) := by decide +kernel
theorem dX3_standing_12 : decode cX3_standing 12 = .ok (.lload_n 1, 1) := by decide +kernel
theorem dX3_standing_13 : decode cX3_standing 13 = .ok (.aload_n 0, 1) := by decide +kernel
theorem dX3_standing_14 : decode cX3_standing 14 = .ok (.getfield 11, 3) := by decide +kernel
theorem dX3_standing_17 : decode cX3_standing 17 = .ok (.iload_n 3, 1) := by decide +kernel
theorem dX3_standing_18 : decode cX3_standing 18 = .ok (.aaload, 1) := by decide +kernel
theorem dX3_standing_19 : decode cX3_standing 19 = .ok (.invokevirtual 155, 3) := by decide +kernel
theorem dX3_standing_22 : decode cX3_standing 22 = .ok (.lor, 1) := by decide +kernel
theorem dX3_standing_23 : decode cX3_standing 23 = .ok (.lstore_n 1, 1) := by decide +kernel
theorem dX3_standing_24 : decode cX3_standing 24 = .ok (.iinc 3 1, 3) := by decide +kernel
theorem dX3_standing_27 : decode cX3_standing 27 = .ok (.goto (-23), 3) := by decide +kernel
theorem dX3_standing_30 : decode cX3_standing 30 = .ok (.lload_n 1, 1) := by decide +kernel
theorem dX3_standing_31 : decode cX3_standing 31 = .ok (.lreturn, 1) := by decide +kernel
theorem dX3_lookInside_0 : decode cX3_lookInside 0 = .ok (.iconst 0, 1) := by decide +kernel
theorem dX3_lookInside_1 : decode cX3_lookInside 1 = .ok (.istore_n 1, 1) := by decide +kernel
theorem dX3_lookInside_2 : decode cX3_lookInside 2 = .ok (.iload_n 1, 1) := by decide +kernel
theorem dX3_lookInside_3 : decode cX3_lookInside 3 = .ok (.aload_n 0, 1) := by decide +kernel
theorem dX3_lookInside_4 : decode cX3_lookInside 4 = .ok (.getfield 51, 3) := by decide +kernel
theorem dX3_lookInside_7 : decode cX3_lookInside 7 = .ok (.if_icmp .ge 24, 3) := by decide +kernel
theorem dX3_lookInside_10 : decode cX3_lookInside 10 = .ok (.aload_n 0, 1) := by decide +kernel
theorem dX3_lookInside_11 : decode cX3_lookInside 11 = .ok (.getfield 39, 3) := by decide +kernel
theorem dX3_lookInside_14 : decode cX3_lookInside 14 = .ok (.iload_n 1, 1) := by decide +kernel
theorem dX3_lookInside_15 : decode cX3_lookInside 15 = .ok (.aload_n 0, 1) := by decide +kernel
theorem dX3_lookInside_16 : decode cX3_lookInside 16 = .ok (.getfield 11, 3) := by decide +kernel
theorem dX3_lookInside_19 : decode cX3_lookInside 19 = .ok (.iload_n 1, 1) := by decide +kernel
theorem dX3_lookInside_20 : decode cX3_lookInside 20 = .ok (.aaload, 1) := by decide +kernel
theorem dX3_lookInside_21 : decode cX3_lookInside 21 = .ok (.invokevirtual 159, 3) := by decide +kernel
theorem dX3_lookInside_24 : decode cX3_lookInside 24 = .ok (.lastore, 1) := by decide +kernel
theorem dX3_lookInside_25 : decode cX3_lookInside 25 = .ok (.iinc 1 1, 3) := by decide +kernel
theorem dX3_lookInside_28 : decode cX3_lookInside 28 = .ok (.goto (-26), 3) := by decide +kernel
theorem dX3_lookInside_31 : decode cX3_lookInside 31 = .ok (.return_, 1) := by decide +kernel
theorem dX3_brandSeen_0 : decode cX3_brandSeen 0 = .ok (.iconst 0, 1) := by decide +kernel
theorem dX3_brandSeen_1 : decode cX3_brandSeen 1 = .ok (.istore_n 2, 1) := by decide +kernel
theorem dX3_brandSeen_2 : decode cX3_brandSeen 2 = .ok (.iload_n 2, 1) := by decide +kernel
theorem dX3_brandSeen_3 : decode cX3_brandSeen 3 = .ok (.aload_n 0, 1) := by decide +kernel
theorem dX3_brandSeen_4 : decode cX3_brandSeen 4 = .ok (.getfield 51, 3) := by decide +kernel
theorem dX3_brandSeen_7 : decode cX3_brandSeen 7 = .ok (.if_icmp .ge 24, 3) := by decide +kernel
theorem dX3_brandSeen_10 : decode cX3_brandSeen 10 = .ok (.aload_n 0, 1) := by decide +kernel
theorem dX3_brandSeen_11 : decode cX3_brandSeen 11 = .ok (.getfield 39, 3) := by decide +kernel
theorem dX3_brandSeen_14 : decode cX3_brandSeen 14 = .ok (.iload_n 2, 1) := by decide +kernel
theorem dX3_brandSeen_15 : decode cX3_brandSeen 15 = .ok (.laload, 1) := by decide +kernel
theorem dX3_brandSeen_16 : decode cX3_brandSeen 16 = .ok (.iload_n 1, 1) := by decide +kernel
theorem dX3_brandSeen_17 : decode cX3_brandSeen 17 = .ok (.invokestatic 162, 3) := by decide +kernel
theorem dX3_brandSeen_20 : decode cX3_brandSeen 20 = .ok (.ifCond .eq 5, 3) := by decide +kernel
theorem dX3_brandSeen_23 : decode cX3_brandSeen 23 = .ok (.iload_n 2, 1) := by decide +kernel
theorem dX3_brandSeen_24 : decode cX3_brandSeen 24 = .ok (.ireturn, 1) := by decide +kernel
theorem dX3_brandSeen_25 : decode cX3_brandSeen 25 = .ok (.iinc 2 1, 3) := by decide +kernel
theorem dX3_brandSeen_28 : decode cX3_brandSeen 28 = .ok (.goto (-26), 3) := by decide +kernel
theorem dX3_brandSeen_31 : decode cX3_brandSeen 31 = .ok (.iconst (-1), 1) := by decide +kernel
theorem dX3_brandSeen_32 : decode cX3_brandSeen 32 = .ok (.ireturn, 1) := by decide +kernel
theorem dX3_branded_0 : decode cX3_branded 0 = .ok (.lconst 0, 1) := by decide +kernel
theorem dX3_branded_1 : decode cX3_branded 1 = .ok (.lstore_n 1, 1) := by decide +kernel
theorem dX3_branded_2 : decode cX3_branded 2 = .ok (.iconst 0, 1) := by decide +kernel
theorem dX3_branded_3 : decode cX3_branded 3 = .ok (.istore_n 3, 1) := by decide +kernel
theorem dX3_branded_4 : decode cX3_branded 4 = .ok (.iload_n 3, 1) := by decide +kernel
theorem dX3_branded_5 : decode cX3_branded 5 = .ok (.aload_n 0, 1) := by decide +kernel
theorem dX3_branded_6 : decode cX3_branded 6 = .ok (.getfield 51, 3) := by decide +kernel
theorem dX3_branded_9 : decode cX3_branded 9 = .ok (.if_icmp .ge 18, 3) := by decide +kernel
theorem dX3_branded_12 : decode cX3_branded 12 = .ok (.lload_n 1, 1) := by decide +kernel
theorem dX3_branded_13 : decode cX3_branded 13 = .ok (.aload_n 0, 1) := by decide +kernel
theorem dX3_branded_14 : decode cX3_branded 14 = .ok (.getfield 39, 3) := by decide +kernel
theorem dX3_branded_17 : decode cX3_branded 17 = .ok (.iload_n 3, 1) := by decide +kernel
theorem dX3_branded_18 : decode cX3_branded 18 = .ok (.laload, 1) := by decide +kernel
theorem dX3_branded_19 : decode cX3_branded 19 = .ok (.lor, 1) := by decide +kernel
theorem dX3_branded_20 : decode cX3_branded 20 = .ok (.lstore_n 1, 1) := by decide +kernel
theorem dX3_branded_21 : decode cX3_branded 21 = .ok (.iinc 3 1, 3) := by decide +kernel
theorem dX3_branded_24 : decode cX3_branded 24 = .ok (.goto (-20), 3) := by decide +kernel
theorem dX3_branded_27 : decode cX3_branded 27 = .ok (.lload_n 1, 1) := by decide +kernel
theorem dX3_branded_28 : decode cX3_branded 28 = .ok (.lreturn, 1) := by decide +kernel
theorem dX4_init_0 : decode cX4_init 0 = .ok (.aload_n 0, 1) := by decide +kernel
theorem dX4_init_1 : decode cX4_init 1 = .ok (.invokespecial 1, 3) := by decide +kernel
theorem dX4_init_4 : decode cX4_init 4 = .ok (.aload_n 0, 1) := by decide +kernel
theorem dX4_init_5 : decode cX4_init 5 = .ok (.bipush 24, 2) := by decide +kernel
theorem dX4_init_7 : decode cX4_init 7 = .ok (.newarray .int, 2) := by decide +kernel
theorem dX4_init_9 : decode cX4_init 9 = .ok (.putfield 9, 3) := by decide +kernel
theorem dX4_init_12 : decode cX4_init 12 = .ok (.return_, 1) := by decide +kernel
theorem dX4_isBits_0 : decode cX4_isBits 0 = .ok (.iload_n 0, 1) := by decide +kernel
theorem dX4_isBits_1 : decode cX4_isBits 1 = .ok (.ifCond .eq 21, 3) := by decide +kernel
theorem dX4_isBits_4 : decode cX4_isBits 4 = .ok (.iload_n 0, 1) := by decide +kernel
theorem dX4_isBits_5 : decode cX4_isBits 5 = .ok (.bipush 8, 2) := by decide +kernel
theorem dX4_isBits_7 : decode cX4_isBits 7 = .ok (.if_icmp .eq 15, 3) := by decide +kernel
theorem dX4_isBits_10 : decode cX4_isBits 10 = .ok (.iload_n 0, 1) := by decide +kernel
theorem dX4_isBits_11 : decode cX4_isBits 11 = .ok (.bipush 16, 2) := by decide +kernel
theorem dX4_isBits_13 : decode cX4_isBits 13 = .ok (.if_icmp .eq 9, 3) := by decide +kernel
theorem dX4_isBits_16 : decode cX4_isBits 16 = .ok (.iload_n 0, 1) := by decide +kernel
theorem dX4_isBits_17 : decode cX4_isBits 17 = .ok (.bipush 32, 2) := by decide +kernel
theorem dX4_isBits_19 : decode cX4_isBits 19 = .ok (.if_icmp .ne 7, 3) := by decide +kernel
theorem dX4_isBits_22 : decode cX4_isBits 22 = .ok (.iconst 1, 1) := by decide +kernel
theorem dX4_isBits_23 : decode cX4_isBits 23 = .ok (.goto 4, 3) := by decide +kernel
theorem dX4_isBits_26 : decode cX4_isBits 26 = .ok (.iconst 0, 1) := by decide +kernel
theorem dX4_isBits_27 : decode cX4_isBits 27 = .ok (.ireturn, 1) := by decide +kernel
theorem dX4_begin_0 : decode cX4_begin 0 = .ok (.aload_n 0, 1) := by decide +kernel
theorem dX4_begin_1 : decode cX4_begin 1 = .ok (.iload_n 1, 1) := by decide +kernel
theorem dX4_begin_2 : decode cX4_begin 2 = .ok (.putfield 13, 3) := by decide +kernel
theorem dX4_begin_5 : decode cX4_begin 5 = .ok (.aload_n 0, 1) := by decide +kernel
theorem dX4_begin_6 : decode cX4_begin 6 = .ok (.iload_n 2, 1) := by decide +kernel
theorem dX4_begin_7 : decode cX4_begin 7 = .ok (.putfield 17, 3) := by decide +kernel
theorem dX4_begin_10 : decode cX4_begin 10 = .ok (.iconst 0, 1) := by decide +kernel
theorem dX4_begin_11 : decode cX4_begin 11 = .ok (.istore_n 3, 1) := by decide +kernel
theorem dX4_begin_12 : decode cX4_begin 12 = .ok (.iload_n 3, 1) := by decide +kernel
theorem dX4_begin_13 : decode cX4_begin 13 = .ok (.bipush 24, 2) := by decide +kernel
theorem dX4_begin_15 : decode cX4_begin 15 = .ok (.if_icmp .ge 16, 3) := by decide +kernel
theorem dX4_begin_18 : decode cX4_begin 18 = .ok (.aload_n 0, 1) := by decide +kernel
theorem dX4_begin_19 : decode cX4_begin 19 = .ok (.getfield 9, 3) := by decide +kernel
theorem dX4_begin_22 : decode cX4_begin 22 = .ok (.iload_n 3, 1) := by decide +kernel
theorem dX4_begin_23 : decode cX4_begin 23 = .ok (.iconst 0, 1) := by decide +kernel
theorem dX4_begin_24 : decode cX4_begin 24 = .ok (.iastore, 1) := by decide +kernel
theorem dX4_begin_25 : decode cX4_begin 25 = .ok (.iinc 3 1, 3) := by decide +kernel
theorem dX4_begin_28 : decode cX4_begin 28 = .ok (.goto (-16), 3) := by decide +kernel
theorem dX4_begin_31 : decode cX4_begin 31 = .ok (.return_, 1) := by decide +kernel
theorem dX4_lowestBits_0 : decode cX4_lowestBits 0 = .ok (.aload_n 0, 1) := by decide +kernel
theorem dX4_lowestBits_1 : decode cX4_lowestBits 1 = .ok (.getfield 13, 3) := by decide +kernel
theorem dX4_lowestBits_4 : decode cX4_lowestBits 4 = .ok (.bipush 8, 2) := by decide +kernel
theorem dX4_lowestBits_6 : decode cX4_lowestBits 6 = .ok (.if_icmp .ne 6, 3) := by decide +kernel
theorem dX4_lowestBits_9 : decode cX4_lowestBits 9 = .ok (.iload_n 1, 1) := by decide +kernel
theorem dX4_lowestBits_10 : decode cX4_lowestBits 10 = .ok (.i2b, 1) := by decide +kernel
theorem dX4_lowestBits_11 : decode cX4_lowestBits 11 = .ok (.ireturn, 1) := by decide +kernel
theorem dX4_lowestBits_12 : decode cX4_lowestBits 12 = .ok (.aload_n 0, 1) := by decide +kernel
theorem dX4_lowestBits_13 : decode cX4_lowestBits 13 = .ok (.getfield 13, 3) := by decide +kernel
theorem dX4_lowestBits_16 : decode cX4_lowestBits 16 = .ok (.bipush 16, 2) := by decide +kernel
theorem dX4_lowestBits_18 : decode cX4_lowestBits 18 = .ok (.if_icmp .ne 8, 3) := by decide +kernel
theorem dX4_lowestBits_21 : decode cX4_lowestBits 21 = .ok (.iload_n 1, 1) := by decide +kernel
theorem dX4_lowestBits_22 : decode cX4_lowestBits 22 = .ok (.i2s, 1) := by decide +kernel
theorem dX4_lowestBits_23 : decode cX4_lowestBits 23 = .ok (.goto 4, 3) := by decide +kernel
theorem dX4_lowestBits_26 : decode cX4_lowestBits 26 = .ok (.iload_n 1, 1) := by decide +kernel
theorem dX4_lowestBits_27 : decode cX4_lowestBits 27 = .ok (.ireturn, 1) := by decide +kernel
theorem dX4_hasPart_0 : decode cX4_hasPart 0 = .ok (.iload_n 1, 1) := by decide +kernel
theorem dX4_hasPart_1 : decode cX4_hasPart 1 = .ok (.ifCond .lt 29, 3) := by decide +kernel
theorem dX4_hasPart_4 : decode cX4_hasPart 4 = .ok (.iload_n 2, 1) := by decide +kernel
theorem dX4_hasPart_5 : decode cX4_hasPart 5 = .ok (.ifCond .lt 25, 3) := by decide +kernel
theorem dX4_hasPart_8 : decode cX4_hasPart 8 = .ok (.iload_n 2, 1) := by decide +kernel
theorem dX4_hasPart_9 : decode cX4_hasPart 9 = .ok (.aload_n 0, 1) := by decide +kernel
theorem dX4_hasPart_10 : decode cX4_hasPart 10 = .ok (.getfield 17, 3) := by decide +kernel
theorem dX4_hasPart_13 : decode cX4_hasPart 13 = .ok (.if_icmp .gt 17, 3) := by decide +kernel
theorem dX4_hasPart_16 : decode cX4_hasPart 16 = .ok (.iload_n 1, 1) := by decide +kernel
theorem dX4_hasPart_17 : decode cX4_hasPart 17 = .ok (.aload_n 0, 1) := by decide +kernel
theorem dX4_hasPart_18 : decode cX4_hasPart 18 = .ok (.getfield 17, 3) := by decide +kernel
theorem dX4_hasPart_21 : decode cX4_hasPart 21 = .ok (.iload_n 2, 1) := by decide +kernel
theorem dX4_hasPart_22 : decode cX4_hasPart 22 = .ok (.isub, 1) := by decide +kernel
theorem dX4_hasPart_23 : decode cX4_hasPart 23 = .ok (.if_icmp .gt 7, 3) := by decide +kernel
theorem dX4_hasPart_26 : decode cX4_hasPart 26 = .ok (.iconst 1, 1) := by decide +kernel
theorem dX4_hasPart_27 : decode cX4_hasPart 27 = .ok (.goto 4, 3) := by decide +kernel
theorem dX4_hasPart_30 : decode cX4_hasPart 30 = .ok (.iconst 0, 1) := by decide +kernel
theorem dX4_hasPart_31 : decode cX4_hasPart 31 = .ok (.ireturn, 1) := by decide +kernel
theorem dX4_tells_0 : decode cX4_tells 0 = .ok (.aload_n 0, 1) := by decide +kernel
theorem dX4_tells_1 : decode cX4_tells 1 = .ok (.getfield 17, 3) := by decide +kernel
theorem dX4_tells_4 : decode cX4_tells 4 = .ok (.aload_n 1, 1) := by decide +kernel
theorem dX4_tells_5 : decode cX4_tells 5 = .ok (.getfield 20, 3) := by decide +kernel
theorem dX4_tells_8 : decode cX4_tells 8 = .ok (.if_icmp .ne 7, 3) := by decide +kernel
theorem dX4_tells_11 : decode cX4_tells 11 = .ok (.iconst 1, 1) := by decide +kernel
theorem dX4_tells_12 : decode cX4_tells 12 = .ok (.goto 4, 3) := by decide +kernel
theorem dX4_tells_15 : decode cX4_tells 15 = .ok (.iconst 0, 1) := by decide +kernel
theorem dX4_tells_16 : decode cX4_tells 16 = .ok (.istore_n 2, 1) := by decide +kernel
theorem dX4_tells_17 : decode cX4_tells 17 = .ok (.iconst 0, 1) := by decide +kernel
theorem dX4_tells_18 : decode cX4_tells 18 = .ok (.istore_n 3, 1) := by decide +kernel
theorem dX4_tells_19 : decode cX4_tells 19 = .ok (.iload_n 2, 1) := by decide +kernel
theorem dX4_tells_20 : decode cX4_tells 20 = .ok (.ifCond .eq 38, 3) := by decide +kernel
theorem dX4_tells_23 : decode cX4_tells 23 = .ok (.iload_n 3, 1) := by decide +kernel
theorem dX4_tells_24 : decode cX4_tells 24 = .ok (.aload_n 1, 1) := by decide +kernel
theorem dX4_tells_25 : decode cX4_tells 25 = .ok (.getfield 20, 3) := by decide +kernel
theorem dX4_tells_28 : decode cX4_tells 28 = .ok (.if_icmp .ge 30, 3) := by decide +kernel
theorem dX4_tells_31 : decode cX4_tells 31 = .ok (.aload_n 0, 1) := by decide +kernel
theorem dX4_tells_32 : decode cX4_tells 32 = .ok (.getfield 9, 3) := by decide +kernel
theorem dX4_tells_35 : decode cX4_tells 35 = .ok (.iload_n 3, 1) := by decide +kernel
theorem dX4_tells_36 : decode cX4_tells 36 = .ok (.iaload, 1) := by decide +kernel
theorem dX4_tells_37 : decode cX4_tells 37 = .ok (.aload_n 1, 1) := by decide +kernel
theorem dX4_tells_38 : decode cX4_tells 38 = .ok (.getfield 25, 3) := by decide +kernel
theorem dX4_tells_41 : decode cX4_tells 41 = .ok (.iload_n 3, 1) := by decide +kernel
theorem dX4_tells_42 : decode cX4_tells 42 = .ok (.iaload, 1) := by decide +kernel
theorem dX4_tells_43 : decode cX4_tells 43 = .ok (.if_icmp .ne 7, 3) := by decide +kernel
theorem dX4_tells_46 : decode cX4_tells 46 = .ok (.iconst 1, 1) := by decide +kernel
theorem dX4_tells_47 : decode cX4_tells 47 = .ok (.goto 4, 3) := by decide +kernel
theorem dX4_tells_50 : decode cX4_tells 50 = .ok (.iconst 0, 1) := by decide +kernel
theorem dX4_tells_51 : decode cX4_tells 51 = .ok (.istore_n 2, 1) := by decide +kernel
theorem dX4_tells_52 : decode cX4_tells 52 = .ok (.iinc 3 1, 3) := by decide +kernel
theorem dX4_tells_55 : decode cX4_tells 55 = .ok (.goto (-36), 3) := by decide +kernel
theorem dX4_tells_58 : decode cX4_tells 58 = .ok (.iload_n 2, 1) := by decide +kernel
theorem dX4_tells_59 : decode cX4_tells 59 = .ok (.ireturn, 1) := by decide +kernel
theorem dX5_init_0 : decode cX5_init 0 = .ok (.aload_n 0, 1) := by decide +kernel
theorem dX5_init_1 : decode cX5_init 1 = .ok (.invokespecial 1, 3) := by decide +kernel
theorem dX5_init_4 : decode cX5_init 4 = .ok (.aload_n 0, 1) := by decide +kernel
theorem dX5_init_5 : decode cX5_init 5 = .ok (.bipush 60, 2) := by decide +kernel
theorem dX5_init_7 : decode cX5_init 7 = .ok (.newarray .int, 2) := by decide +kernel
theorem dX5_init_9 : decode cX5_init 9 = .ok (.putfield 9, 3) := by decide +kernel
theorem dX5_init_12 : decode cX5_init 12 = .ok (.aload_n 0, 1) := by decide +kernel
theorem dX5_init_13 : decode cX5_init 13 = .ok (.iconst 0, 1) := by decide +kernel
theorem dX5_init_14 : decode cX5_init 14 = .ok (.newarray .byte, 2) := by decide +kernel
theorem dX5_init_16 : decode cX5_init 16 = .ok (.putfield 15, 3) := by decide +kernel
theorem dX5_init_19 : decode cX5_init 19 = .ok (.aload_n 0, 1) := by decide +kernel
theorem dX5_init_20 : decode cX5_init 20 = .ok (.ldc 19, 2) := by decide +kernel
theorem dX5_init_22 : decode cX5_init 22 = .ok (.putfield 21, 3) := by decide +kernel
theorem dX5_init_25 : decode cX5_init 25 = .ok (.return_, 1) := by decide +kernel
theorem dX5_faultOf_0 : decode cX5_faultOf 0 = .ok (.aload_n 0, 1) := by decide +kernel
theorem dX5_faultOf_1 : decode cX5_faultOf 1 = .ok (.aload_n 1, 1) := by decide +kernel
theorem dX5_faultOf_2 : decode cX5_faultOf 2 = .ok (.putfield 15, 3) := by decide +kernel
theorem dX5_faultOf_5 : decode cX5_faultOf 5 = .ok (.aload_n 0, 1) := by decide +kernel
theorem dX5_faultOf_6 : decode cX5_faultOf 6 = .ok (.iload_n 2, 1) := by decide +kernel
theorem dX5_faultOf_7 : decode cX5_faultOf 7 = .ok (.aload_n 1, 1) := by decide +kernel
theorem dX5_faultOf_8 : decode cX5_faultOf 8 = .ok (.arraylength, 1) := by decide +kernel
theorem dX5_faultOf_9 : decode cX5_faultOf 9 = .ok (.invokestatic 25, 3) := by decide +kernel
theorem dX5_faultOf_12 : decode cX5_faultOf 12 = .ok (.putfield 31, 3) := by decide +kernel
theorem dX5_faultOf_15 : decode cX5_faultOf 15 = .ok (.aload_n 0, 1) := by decide +kernel
theorem dX5_faultOf_16 : decode cX5_faultOf 16 = .ok (.aload_n 3, 1) := by decide +kernel
theorem dX5_faultOf_17 : decode cX5_faultOf 17 = .ok (.putfield 21, 3) := by decide +kernel
theorem dX5_faultOf_20 : decode cX5_faultOf 20 = .ok (.aload_n 0, 1) := by decide +kernel
theorem dX5_faultOf_21 : decode cX5_faultOf 21 = .ok (.iconst 0, 1) := by decide +kernel
theorem dX5_faultOf_22 : decode cX5_faultOf 22 = .ok (.putfield 35, 3) := by decide +kernel
theorem dX5_faultOf_25 : decode cX5_faultOf 25 = .ok (.aload_n 0, 1) := by decide +kernel
theorem dX5_faultOf_26 : decode cX5_faultOf 26 = .ok (.iconst 0, 1) := by decide +kernel
theorem dX5_faultOf_27 : decode cX5_faultOf 27 = .ok (.putfield 38, 3) := by decide +kernel
theorem dX5_faultOf_30 : decode cX5_faultOf 30 = .ok (.aload_n 0, 1) := by decide +kernel
theorem dX5_faultOf_31 : decode cX5_faultOf 31 = .ok (.iconst 0, 1) := by decide +kernel
theorem dX5_faultOf_32 : decode cX5_faultOf 32 = .ok (.iconst 0, 1) := by decide +kernel
theorem dX5_faultOf_33 : decode cX5_faultOf 33 = .ok (.invokevirtual 41, 3) := by decide +kernel
theorem dX5_faultOf_36 : decode cX5_faultOf 36 = .ok (.ifCond .eq 18, 3) := by decide +kernel
theorem dX5_faultOf_39 : decode cX5_faultOf 39 = .ok (.aload_n 0, 1) := by decide +kernel
theorem dX5_faultOf_40 : decode cX5_faultOf 40 = .ok (.getfield 35, 3) := by decide +kernel
theorem dX5_faultOf_43 : decode cX5_faultOf 43 = .ok (.aload_n 0, 1) := by decide +kernel
theorem dX5_faultOf_44 : decode cX5_faultOf 44 = .ok (.getfield 31, 3) := by decide +kernel
theorem dX5_faultOf_47 : decode cX5_faultOf 47 = .ok (.if_icmp .ne 7, 3) := by decide +kernel
theorem dX5_faultOf_50 : decode cX5_faultOf 50 = .ok (.iconst 1, 1) := by decide +kernel
theorem dX5_faultOf_51 : decode cX5_faultOf 51 = .ok (.goto 4, 3) := by decide +kernel
theorem dX5_faultOf_54 : decode cX5_faultOf 54 = .ok (.iconst 0, 1) := by decide +kernel
theorem dX5_faultOf_55 : decode cX5_faultOf 55 = .ok (.istore 4, 2) := by decide +kernel
theorem dX5_faultOf_57 : decode cX5_faultOf 57 = .ok (.iload 4, 2) := by decide +kernel
theorem dX5_faultOf_59 : decode cX5_faultOf 59 = .ok (.ifCond .eq 7, 3) := by decide +kernel
theorem dX5_faultOf_62 : decode cX5_faultOf 62 = .ok (.iconst (-1), 1) := by decide +kernel
theorem dX5_faultOf_63 : decode cX5_faultOf 63 = .ok (.goto 7, 3) := by decide +kernel
theorem dX5_faultOf_66 : decode cX5_faultOf 66 = .ok (.aload_n 0, 1) := by decide +kernel
theorem dX5_faultOf_67 : decode cX5_faultOf 67 = .ok (.getfield 35, 3) := by decide +kernel
theorem dX5_faultOf_70 : decode cX5_faultOf 70 = .ok (.ireturn, 1) := by decide +kernel
theorem dX5_readLevel_0 : decode cX5_readLevel 0 = .ok (.iload_n 1, 1) := by decide +kernel
theorem dX5_readLevel_1 : decode cX5_readLevel 1 = .ok (.iconst 5, 1) := by decide +kernel
theorem dX5_readLevel_2 : decode cX5_readLevel 2 = .ok (.if_icmp .lt 9, 3) := by decide +kernel
theorem dX5_readLevel_5 : decode cX5_readLevel 5 = .ok (.aload_n 0, 1) := by decide +kernel
theorem dX5_readLevel_6 : decode cX5_readLevel 6 = .ok (.iload_n 2, 1) := by decide +kernel
theorem dX5_readLevel_7 : decode cX5_readLevel 7 = .ok (.invokevirtual 45, 3) := by decide +kernel
theorem dX5_readLevel_10 : decode cX5_readLevel 10 = .ok (.ireturn, 1) := by decide +kernel
theorem dX5_readLevel_11 : decode cX5_readLevel 11 = .ok (.aload_n 0, 1) := by decide +kernel
theorem dX5_readLevel_12 : decode cX5_readLevel 12 = .ok (.iload_n 1, 1) := by decide +kernel
theorem dX5_readLevel_13 : decode cX5_readLevel 13 = .ok (.iconst 1, 1) := by decide +kernel
theorem dX5_readLevel_14 : decode cX5_readLevel 14 = .ok (.iadd, 1) := by decide +kernel
theorem dX5_readLevel_15 : decode cX5_readLevel 15 = .ok (.iload_n 2, 1) := by decide +kernel
theorem dX5_readLevel_16 : decode cX5_readLevel 16 = .ok (.invokevirtual 41, 3) := by decide +kernel
theorem dX5_readLevel_19 : decode cX5_readLevel 19 = .ok (.ifCond .ne 5, 3) := by decide +kernel
theorem dX5_readLevel_22 : decode cX5_readLevel 22 = .ok (.iconst 0, 1) := by decide +kernel
theorem dX5_readLevel_23 : decode cX5_readLevel 23 = .ok (.ireturn, 1) := by decide +kernel
theorem dX5_readLevel_24 : decode cX5_readLevel 24 = .ok (.iload_n 1, 1) := by decide +kernel
theorem dX5_readLevel_25 : decode cX5_readLevel 25 = .ok (.iconst 2, 1) := by decide +kernel
theorem dX5_readLevel_26 : decode cX5_readLevel 26 = .ok (.if_icmp .ne 7, 3) := by decide +kernel
theorem dX5_readLevel_29 : decode cX5_readLevel 29 = .ok (.iconst 1, 1) := by decide +kernel
theorem dX5_readLevel_30 : decode cX5_readLevel 30 = .ok (.goto 5, 3) := by decide +kernel
theorem dX5_readLevel_33 : decode cX5_readLevel 33 = .ok (.bipush 60, 2) := by decide +kernel
theorem dX5_readLevel_35 : decode cX5_readLevel 35 = .ok (.istore_n 3, 1) := by decide +kernel
theorem dX5_readLevel_36 : decode cX5_readLevel 36 = .ok (.iconst 0, 1) := by decide +kernel
theorem dX5_readLevel_37 : decode cX5_readLevel 37 = .ok (.istore 4, 2) := by decide +kernel
theorem dX5_readLevel_39 : decode cX5_readLevel 39 = .ok (.iload 4, 2) := by decide +kernel
theorem dX5_readLevel_41 : decode cX5_readLevel 41 = .ok (.iload_n 3, 1) := by decide +kernel
theorem dX5_readLevel_42 : decode cX5_readLevel 42 = .ok (.if_icmp .ge 56, 3) := by decide +kernel
theorem dX5_readLevel_45 : decode cX5_readLevel 45 = .ok (.iload_n 1, 1) := by decide +kernel
theorem dX5_readLevel_46 : decode cX5_readLevel 46 = .ok (.aload_n 0, 1) := by decide +kernel
theorem dX5_readLevel_47 : decode cX5_readLevel 47 = .ok (.invokevirtual 49, 3) := by decide +kernel
theorem dX5_readLevel_50 : decode cX5_readLevel 50 = .ok (.invokestatic 53, 3) := by decide +kernel
theorem dX5_readLevel_53 : decode cX5_readLevel 53 = .ok (.ifCond .eq 45, 3) := by decide +kernel
theorem dX5_readLevel_56 : decode cX5_readLevel 56 = .ok (.aload_n 0, 1) := by decide +kernel
theorem dX5_readLevel_57 : decode cX5_readLevel 57 = .ok (.invokevirtual 49, 3) := by decide +kernel
theorem dX5_readLevel_60 : decode cX5_readLevel 60 = .ok (.istore 5, 2) := by decide +kernel
theorem dX5_readLevel_62 : decode cX5_readLevel 62 = .ok (.aload_n 0, 1) := by decide +kernel
theorem dX5_readLevel_63 : decode cX5_readLevel 63 = .ok (.dup, 1) := by decide +kernel
theorem dX5_readLevel_64 : decode cX5_readLevel 64 = .ok (.getfield 35, 3) := by decide +kernel
theorem dX5_readLevel_67 : decode cX5_readLevel 67 = .ok (.iconst 1, 1) := by decide +kernel
theorem dX5_readLevel_68 : decode cX5_readLevel 68 = .ok (.iadd, 1) := by decide +kernel
theorem dX5_readLevel_69 : decode cX5_readLevel 69 = .ok (.putfield 35, 3) := by decide +kernel
theorem dX5_readLevel_72 : decode cX5_readLevel 72 = .ok (.aload_n 0, 1) := by decide +kernel
theorem dX5_readLevel_73 : decode cX5_readLevel 73 = .ok (.iload_n 1, 1) := by decide +kernel
theorem dX5_readLevel_74 : decode cX5_readLevel 74 = .ok (.iconst 1, 1) := by decide +kernel
theorem dX5_readLevel_75 : decode cX5_readLevel 75 = .ok (.iadd, 1) := by decide +kernel
theorem dX5_readLevel_76 : decode cX5_readLevel 76 = .ok (.iload_n 2, 1) := by decide +kernel
theorem dX5_readLevel_77 : decode cX5_readLevel 77 = .ok (.invokevirtual 41, 3) := by decide +kernel
theorem dX5_readLevel_80 : decode cX5_readLevel 80 = .ok (.ifCond .ne 5, 3) := by decide +kernel
theorem dX5_readLevel_83 : decode cX5_readLevel 83 = .ok (.iconst 0, 1) := by decide +kernel
theorem dX5_readLevel_84 : decode cX5_readLevel 84 = .ok (.ireturn, 1) := by decide +kernel
theorem dX5_readLevel_85 : decode cX5_readLevel 85 = .ok (.aload_n 0, 1) := by decide +kernel
theorem dX5_readLevel_86 : decode cX5_readLevel 86 = .ok (.iload 5, 2) := by decide +kernel
theorem dX5_readLevel_88 : decode cX5_readLevel 88 = .ok (.ineg, 1) := by decide +kernel
theorem dX5_readLevel_89 : decode cX5_readLevel 89 = .ok (.invokevirtual 57, 3) := by decide +kernel
theorem dX5_readLevel_92 : decode cX5_readLevel 92 = .ok (.iinc 4 1, 3) := by decide +kernel
theorem dX5_readLevel_95 : decode cX5_readLevel 95 = .ok (.goto (-56), 3) := by decide +kernel
theorem dX5_readLevel_98 : decode cX5_readLevel 98 = .ok (.iconst 1, 1) := by decide +kernel
theorem dX5_readLevel_99 : decode cX5_readLevel 99 = .ok (.ireturn, 1) := by decide +kernel
theorem dX5_joins_0 : decode cX5_joins 0 = .ok (.iload_n 1, 1) := by decide +kernel
theorem dX5_joins_1 : decode cX5_joins 1 = .ok (.lookupswitch 145 #[(37, 134), (38, 101), (42, 134), (43, 123), (45, 123), (47, 134), (60, 112), (61, 112), (62, 112), (124, 91)], 91) := by decide +kernel
theorem dX5_joins_92 : decode cX5_joins 92 = .ok (.iload_n 0, 1) := by decide +kernel
theorem dX5_joins_93 : decode cX5_joins 93 = .ok (.ifCond .ne 7, 3) := by decide +kernel
theorem dX5_joins_96 : decode cX5_joins 96 = .ok (.iconst 1, 1) := by decide +kernel
theorem dX5_joins_97 : decode cX5_joins 97 = .ok (.goto 4, 3) := by decide +kernel
theorem dX5_joins_100 : decode cX5_joins 100 = .ok (.iconst 0, 1) := by decide +kernel
theorem dX5_joins_101 : decode cX5_joins 101 = .ok (.ireturn, 1) := by decide +kernel
theorem dX5_joins_102 : decode cX5_joins 102 = .ok (.iload_n 0, 1) := by decide +kernel
theorem dX5_joins_103 : decode cX5_joins 103 = .ok (.iconst 1, 1) := by decide +kernel
theorem dX5_joins_104 : decode cX5_joins 104 = .ok (.if_icmp .ne 7, 3) := by decide +kernel
theorem dX5_joins_107 : decode cX5_joins 107 = .ok (.iconst 1, 1) := by decide +kernel
theorem dX5_joins_108 : decode cX5_joins 108 = .ok (.goto 4, 3) := by decide +kernel
theorem dX5_joins_111 : decode cX5_joins 111 = .ok (.iconst 0, 1) := by decide +kernel
theorem dX5_joins_112 : decode cX5_joins 112 = .ok (.ireturn, 1) := by decide +kernel
theorem dX5_joins_113 : decode cX5_joins 113 = .ok (.iload_n 0, 1) := by decide +kernel
theorem dX5_joins_114 : decode cX5_joins 114 = .ok (.iconst 2, 1) := by decide +kernel
theorem dX5_joins_115 : decode cX5_joins 115 = .ok (.if_icmp .ne 7, 3) := by decide +kernel
theorem dX5_joins_118 : decode cX5_joins 118 = .ok (.iconst 1, 1) := by decide +kernel
theorem dX5_joins_119 : decode cX5_joins 119 = .ok (.goto 4, 3) := by decide +kernel
theorem dX5_joins_122 : decode cX5_joins 122 = .ok (.iconst 0, 1) := by decide +kernel
theorem dX5_joins_123 : decode cX5_joins 123 = .ok (.ireturn, 1) := by decide +kernel
theorem dX5_joins_124 : decode cX5_joins 124 = .ok (.iload_n 0, 1) := by decide +kernel
theorem dX5_joins_125 : decode cX5_joins 125 = .ok (.iconst 3, 1) := by decide +kernel
theorem dX5_joins_126 : decode cX5_joins 126 = .ok (.if_icmp .ne 7, 3) := by decide +kernel
theorem dX5_joins_129 : decode cX5_joins 129 = .ok (.iconst 1, 1) := by decide +kernel
theorem dX5_joins_130 : decode cX5_joins 130 = .ok (.goto 4, 3) := by decide +kernel
theorem dX5_joins_133 : decode cX5_joins 133 = .ok (.iconst 0, 1) := by decide +kernel
theorem dX5_joins_134 : decode cX5_joins 134 = .ok (.ireturn, 1) := by decide +kernel
theorem dX5_joins_135 : decode cX5_joins 135 = .ok (.iload_n 0, 1) := by decide +kernel
theorem dX5_joins_136 : decode cX5_joins 136 = .ok (.iconst 4, 1) := by decide +kernel
theorem dX5_joins_137 : decode cX5_joins 137 = .ok (.if_icmp .ne 7, 3) := by decide +kernel
theorem dX5_joins_140 : decode cX5_joins 140 = .ok (.iconst 1, 1) := by decide +kernel
theorem dX5_joins_141 : decode cX5_joins 141 = .ok (.goto 4, 3) := by decide +kernel
theorem dX5_joins_144 : decode cX5_joins 144 = .ok (.iconst 0, 1) := by decide +kernel
theorem dX5_joins_145 : decode cX5_joins 145 = .ok (.ireturn, 1) := by decide +kernel
theorem dX5_joins_146 : decode cX5_joins 146 = .ok (.iconst 0, 1) := by decide +kernel
theorem dX5_joins_147 : decode cX5_joins 147 = .ok (.ireturn, 1) := by decide +kernel
theorem dX5_readQ_0 : decode cX5_readQ 0 = .ok (.aload_n 0, 1) := by decide +kernel
theorem dX5_readQ_1 : decode cX5_readQ 1 = .ok (.invokevirtual 49, 3) := by decide +kernel
theorem dX5_readQ_4 : decode cX5_readQ 4 = .ok (.istore_n 2, 1) := by decide +kernel
theorem dX5_readQ_5 : decode cX5_readQ 5 = .ok (.iload_n 2, 1) := by decide +kernel
theorem dX5_readQ_6 : decode cX5_readQ 6 = .ok (.invokestatic 61, 3) := by decide +kernel
theorem dX5_readQ_9 : decode cX5_readQ 9 = .ok (.ifCond .eq 9, 3) := by decide +kernel
theorem dX5_readQ_12 : decode cX5_readQ 12 = .ok (.aload_n 0, 1) := by decide +kernel
theorem dX5_readQ_13 : decode cX5_readQ 13 = .ok (.invokevirtual 65, 3) := by decide +kernel
theorem dX5_readQ_16 : decode cX5_readQ 16 = .ok (.iconst 1, 1) := by decide +kernel
theorem dX5_readQ_17 : decode cX5_readQ 17 = .ok (.ireturn, 1) := by decide +kernel
theorem dX5_readQ_18 : decode cX5_readQ 18 = .ok (.iload_n 2, 1) := by decide +kernel
theorem dX5_readQ_19 : decode cX5_readQ 19 = .ok (.bipush 33, 2) := by decide +kernel
theorem dX5_readQ_21 : decode cX5_readQ 21 = .ok (.if_icmp .eq 9, 3) := by decide +kernel
theorem dX5_readQ_24 : decode cX5_readQ 24 = .ok (.iload_n 2, 1) := by decide +kernel
theorem dX5_readQ_25 : decode cX5_readQ 25 = .ok (.bipush 40, 2) := by decide +kernel
theorem dX5_readQ_27 : decode cX5_readQ 27 = .ok (.if_icmp .ne 25, 3) := by decide +kernel
theorem dX5_readQ_30 : decode cX5_readQ 30 = .ok (.iload_n 1, 1) := by decide +kernel
theorem dX5_readQ_31 : decode cX5_readQ 31 = .ok (.iconst 5, 1) := by decide +kernel
theorem dX5_readQ_32 : decode cX5_readQ 32 = .ok (.if_icmp .ge 18, 3) := by decide +kernel
theorem dX5_readQ_35 : decode cX5_readQ 35 = .ok (.aload_n 0, 1) := by decide +kernel
theorem dX5_readQ_36 : decode cX5_readQ 36 = .ok (.iload_n 2, 1) := by decide +kernel
theorem dX5_readQ_37 : decode cX5_readQ 37 = .ok (.iload_n 1, 1) := by decide +kernel
theorem dX5_readQ_38 : decode cX5_readQ 38 = .ok (.iconst 1, 1) := by decide +kernel
theorem dX5_readQ_39 : decode cX5_readQ 39 = .ok (.iadd, 1) := by decide +kernel
theorem dX5_readQ_40 : decode cX5_readQ 40 = .ok (.invokevirtual 68, 3) := by decide +kernel
theorem dX5_readQ_43 : decode cX5_readQ 43 = .ok (.ifCond .eq 7, 3) := by decide +kernel
theorem dX5_readQ_46 : decode cX5_readQ 46 = .ok (.iconst 1, 1) := by decide +kernel
theorem dX5_readQ_47 : decode cX5_readQ 47 = .ok (.goto 4, 3) := by decide +kernel
theorem dX5_readQ_50 : decode cX5_readQ 50 = .ok (.iconst 0, 1) := by decide +kernel
theorem dX5_readQ_51 : decode cX5_readQ 51 = .ok (.ireturn, 1) := by decide +kernel
theorem dX5_readQ_52 : decode cX5_readQ 52 = .ok (.aload_n 0, 1) := by decide +kernel
theorem dX5_readQ_53 : decode cX5_readQ 53 = .ok (.getfield 21, 3) := by decide +kernel
theorem dX5_readQ_56 : decode cX5_readQ 56 = .ok (.iload_n 2, 1) := by decide +kernel
theorem dX5_readQ_57 : decode cX5_readQ 57 = .ok (.invokevirtual 72, 3) := by decide +kernel
theorem dX5_readQ_60 : decode cX5_readQ 60 = .ok (.istore_n 3, 1) := by decide +kernel
theorem dX5_readQ_61 : decode cX5_readQ 61 = .ok (.iload_n 3, 1) := by decide +kernel
theorem dX5_readQ_62 : decode cX5_readQ 62 = .ok (.ifCond .ge 5, 3) := by decide +kernel
theorem dX5_readQ_65 : decode cX5_readQ 65 = .ok (.iconst 0, 1) := by decide +kernel
theorem dX5_readQ_66 : decode cX5_readQ 66 = .ok (.ireturn, 1) := by decide +kernel
theorem dX5_readQ_67 : decode cX5_readQ 67 = .ok (.aload_n 0, 1) := by decide +kernel
theorem dX5_readQ_68 : decode cX5_readQ 68 = .ok (.dup, 1) := by decide +kernel
theorem dX5_readQ_69 : decode cX5_readQ 69 = .ok (.getfield 35, 3) := by decide +kernel
theorem dX5_readQ_72 : decode cX5_readQ 72 = .ok (.iconst 1, 1) := by decide +kernel
theorem dX5_readQ_73 : decode cX5_readQ 73 = .ok (.iadd, 1) := by decide +kernel
theorem dX5_readQ_74 : decode cX5_readQ 74 = .ok (.putfield 35, 3) := by decide +kernel
theorem dX5_readQ_77 : decode cX5_readQ 77 = .ok (.aload_n 0, 1) := by decide +kernel
theorem dX5_readQ_78 : decode cX5_readQ 78 = .ok (.iconst (-1), 1) := by decide +kernel
theorem dX5_readQ_79 : decode cX5_readQ 79 = .ok (.iload_n 3, 1) := by decide +kernel
theorem dX5_readQ_80 : decode cX5_readQ 80 = .ok (.isub, 1) := by decide +kernel
theorem dX5_readQ_81 : decode cX5_readQ 81 = .ok (.invokevirtual 57, 3) := by decide +kernel
theorem dX5_readQ_84 : decode cX5_readQ 84 = .ok (.iconst 1, 1) := by decide +kernel
theorem dX5_readQ_85 : decode cX5_readQ 85 = .ok (.ireturn, 1) := by decide +kernel
theorem dX5_readOpened_0 : decode cX5_readOpened 0 = .ok (.aload_n 0, 1) := by decide +kernel
theorem dX5_readOpened_1 : decode cX5_readOpened 1 = .ok (.dup, 1) := by decide +kernel
theorem dX5_readOpened_2 : decode cX5_readOpened 2 = .ok (.getfield 35, 3) := by decide +kernel
theorem dX5_readOpened_5 : decode cX5_readOpened 5 = .ok (.iconst 1, 1) := by decide +kernel
theorem dX5_readOpened_6 : decode cX5_readOpened 6 = .ok (.iadd, 1) := by decide +kernel
theorem dX5_readOpened_7 : decode cX5_readOpened 7 = .ok (.putfield 35, 3) := by decide +kernel
theorem dX5_readOpened_10 : decode cX5_readOpened 10 = .ok (.iload_n 1, 1) := by decide +kernel
theorem dX5_readOpened_11 : decode cX5_readOpened 11 = .ok (.bipush 33, 2) := by decide +kernel
theorem dX5_readOpened_13 : decode cX5_readOpened 13 = .ok (.if_icmp .ne 17, 3) := by decide +kernel
theorem dX5_readOpened_16 : decode cX5_readOpened 16 = .ok (.aload_n 0, 1) := by decide +kernel
theorem dX5_readOpened_17 : decode cX5_readOpened 17 = .ok (.iload_n 2, 1) := by decide +kernel
theorem dX5_readOpened_18 : decode cX5_readOpened 18 = .ok (.invokevirtual 45, 3) := by decide +kernel
theorem dX5_readOpened_21 : decode cX5_readOpened 21 = .ok (.istore_n 3, 1) := by decide +kernel
theorem dX5_readOpened_22 : decode cX5_readOpened 22 = .ok (.aload_n 0, 1) := by decide +kernel
theorem dX5_readOpened_23 : decode cX5_readOpened 23 = .ok (.bipush (-33), 2) := by decide +kernel
theorem dX5_readOpened_25 : decode cX5_readOpened 25 = .ok (.invokevirtual 57, 3) := by decide +kernel
theorem dX5_readOpened_28 : decode cX5_readOpened 28 = .ok (.iload_n 3, 1) := by decide +kernel
theorem dX5_readOpened_29 : decode cX5_readOpened 29 = .ok (.ireturn, 1) := by decide +kernel
theorem dX5_readOpened_30 : decode cX5_readOpened 30 = .ok (.aload_n 0, 1) := by decide +kernel
theorem dX5_readOpened_31 : decode cX5_readOpened 31 = .ok (.iconst 0, 1) := by decide +kernel
theorem dX5_readOpened_32 : decode cX5_readOpened 32 = .ok (.iload_n 2, 1) := by decide +kernel
theorem dX5_readOpened_33 : decode cX5_readOpened 33 = .ok (.invokevirtual 41, 3) := by decide +kernel
theorem dX5_readOpened_36 : decode cX5_readOpened 36 = .ok (.ifCond .eq 12, 3) := by decide +kernel
theorem dX5_readOpened_39 : decode cX5_readOpened 39 = .ok (.aload_n 0, 1) := by decide +kernel
theorem dX5_readOpened_40 : decode cX5_readOpened 40 = .ok (.invokevirtual 49, 3) := by decide +kernel
theorem dX5_readOpened_43 : decode cX5_readOpened 43 = .ok (.bipush 41, 2) := by decide +kernel
theorem dX5_readOpened_45 : decode cX5_readOpened 45 = .ok (.if_icmp .eq 5, 3) := by decide +kernel
theorem dX5_readOpened_48 : decode cX5_readOpened 48 = .ok (.iconst 0, 1) := by decide +kernel
theorem dX5_readOpened_49 : decode cX5_readOpened 49 = .ok (.ireturn, 1) := by decide +kernel
theorem dX5_readOpened_50 : decode cX5_readOpened 50 = .ok (.aload_n 0, 1) := by decide +kernel
theorem dX5_readOpened_51 : decode cX5_readOpened 51 = .ok (.dup, 1) := by decide +kernel
theorem dX5_readOpened_52 : decode cX5_readOpened 52 = .ok (.getfield 35, 3) := by decide +kernel
theorem dX5_readOpened_55 : decode cX5_readOpened 55 = .ok (.iconst 1, 1) := by decide +kernel
theorem dX5_readOpened_56 : decode cX5_readOpened 56 = .ok (.iadd, 1) := by decide +kernel
theorem dX5_readOpened_57 : decode cX5_readOpened 57 = .ok (.putfield 35, 3) := by decide +kernel
theorem dX5_readOpened_60 : decode cX5_readOpened 60 = .ok (.iconst 1, 1) := by decide +kernel
theorem dX5_readOpened_61 : decode cX5_readOpened 61 = .ok (.ireturn, 1) := by decide +kernel
theorem dX5_readNumber_0 : decode cX5_readNumber 0 = .ok (.iconst 0, 1) := by decide +kernel
theorem dX5_readNumber_1 : decode cX5_readNumber 1 = .ok (.istore_n 1, 1) := by decide +kernel
theorem dX5_readNumber_2 : decode cX5_readNumber 2 = .ok (.iconst 0, 1) := by decide +kernel
theorem dX5_readNumber_3 : decode cX5_readNumber 3 = .ok (.istore_n 2, 1) := by decide +kernel
theorem dX5_readNumber_4 : decode cX5_readNumber 4 = .ok (.iload_n 2, 1) := by decide +kernel
theorem dX5_readNumber_5 : decode cX5_readNumber 5 = .ok (.iconst 4, 1) := by decide +kernel
theorem dX5_readNumber_6 : decode cX5_readNumber 6 = .ok (.if_icmp .ge 42, 3) := by decide +kernel
theorem dX5_readNumber_9 : decode cX5_readNumber 9 = .ok (.aload_n 0, 1) := by decide +kernel
theorem dX5_readNumber_10 : decode cX5_readNumber 10 = .ok (.invokevirtual 49, 3) := by decide +kernel
theorem dX5_readNumber_13 : decode cX5_readNumber 13 = .ok (.invokestatic 61, 3) := by decide +kernel
theorem dX5_readNumber_16 : decode cX5_readNumber 16 = .ok (.ifCond .eq 32, 3) := by decide +kernel
theorem dX5_readNumber_19 : decode cX5_readNumber 19 = .ok (.iload_n 1, 1) := by decide +kernel
theorem dX5_readNumber_20 : decode cX5_readNumber 20 = .ok (.bipush 10, 2) := by decide +kernel
theorem dX5_readNumber_22 : decode cX5_readNumber 22 = .ok (.imul, 1) := by decide +kernel
theorem dX5_readNumber_23 : decode cX5_readNumber 23 = .ok (.aload_n 0, 1) := by decide +kernel
theorem dX5_readNumber_24 : decode cX5_readNumber 24 = .ok (.invokevirtual 49, 3) := by decide +kernel
theorem dX5_readNumber_27 : decode cX5_readNumber 27 = .ok (.bipush 48, 2) := by decide +kernel
theorem dX5_readNumber_29 : decode cX5_readNumber 29 = .ok (.isub, 1) := by decide +kernel
theorem dX5_readNumber_30 : decode cX5_readNumber 30 = .ok (.iadd, 1) := by decide +kernel
theorem dX5_readNumber_31 : decode cX5_readNumber 31 = .ok (.istore_n 1, 1) := by decide +kernel
theorem dX5_readNumber_32 : decode cX5_readNumber 32 = .ok (.aload_n 0, 1) := by decide +kernel
theorem dX5_readNumber_33 : decode cX5_readNumber 33 = .ok (.dup, 1) := by decide +kernel
theorem dX5_readNumber_34 : decode cX5_readNumber 34 = .ok (.getfield 35, 3) := by decide +kernel
theorem dX5_readNumber_37 : decode cX5_readNumber 37 = .ok (.iconst 1, 1) := by decide +kernel
theorem dX5_readNumber_38 : decode cX5_readNumber 38 = .ok (.iadd, 1) := by decide +kernel
theorem dX5_readNumber_39 : decode cX5_readNumber 39 = .ok (.putfield 35, 3) := by decide +kernel
theorem dX5_readNumber_42 : decode cX5_readNumber 42 = .ok (.iinc 2 1, 3) := by decide +kernel
theorem dX5_readNumber_45 : decode cX5_readNumber 45 = .ok (.goto (-41), 3) := by decide +kernel
theorem dX5_readNumber_48 : decode cX5_readNumber 48 = .ok (.aload_n 0, 1) := by decide +kernel
theorem dX5_readNumber_49 : decode cX5_readNumber 49 = .ok (.iload_n 1, 1) := by decide +kernel
theorem dX5_readNumber_50 : decode cX5_readNumber 50 = .ok (.invokevirtual 57, 3) := by decide +kernel
theorem dX5_readNumber_53 : decode cX5_readNumber 53 = .ok (.return_, 1) := by decide +kernel
theorem dX5_isDigit_0 : decode cX5_isDigit 0 = .ok (.iload_n 0, 1) := by decide +kernel
theorem dX5_isDigit_1 : decode cX5_isDigit 1 = .ok (.bipush 48, 2) := by decide +kernel
theorem dX5_isDigit_3 : decode cX5_isDigit 3 = .ok (.if_icmp .lt 13, 3) := by decide +kernel
theorem dX5_isDigit_6 : decode cX5_isDigit 6 = .ok (.iload_n 0, 1) := by decide +kernel
theorem dX5_isDigit_7 : decode cX5_isDigit 7 = .ok (.bipush 57, 2) := by decide +kernel
theorem dX5_isDigit_9 : decode cX5_isDigit 9 = .ok (.if_icmp .gt 7, 3) := by decide +kernel
theorem dX5_isDigit_12 : decode cX5_isDigit 12 = .ok (.iconst 1, 1) := by decide +kernel
theorem dX5_isDigit_13 : decode cX5_isDigit 13 = .ok (.goto 4, 3) := by decide +kernel
theorem dX5_isDigit_16 : decode cX5_isDigit 16 = .ok (.iconst 0, 1) := by decide +kernel
theorem dX5_isDigit_17 : decode cX5_isDigit 17 = .ok (.ireturn, 1) := by decide +kernel
theorem dX5_sign_0 : decode cX5_sign 0 = .ok (.aload_n 0, 1) := by decide +kernel
theorem dX5_sign_1 : decode cX5_sign 1 = .ok (.getfield 35, 3) := by decide +kernel
theorem dX5_sign_4 : decode cX5_sign 4 = .ok (.aload_n 0, 1) := by decide +kernel
theorem dX5_sign_5 : decode cX5_sign 5 = .ok (.getfield 31, 3) := by decide +kernel
theorem dX5_sign_8 : decode cX5_sign 8 = .ok (.if_icmp .ge 20, 3) := by decide +kernel
theorem dX5_sign_11 : decode cX5_sign 11 = .ok (.aload_n 0, 1) := by decide +kernel
theorem dX5_sign_12 : decode cX5_sign 12 = .ok (.getfield 15, 3) := by decide +kernel
theorem dX5_sign_15 : decode cX5_sign 15 = .ok (.aload_n 0, 1) := by decide +kernel
theorem dX5_sign_16 : decode cX5_sign 16 = .ok (.getfield 35, 3) := by decide +kernel
theorem dX5_sign_19 : decode cX5_sign 19 = .ok (.baload, 1) := by decide +kernel
theorem dX5_sign_20 : decode cX5_sign 20 = .ok (.sipush 255, 3) := by decide +kernel
theorem dX5_sign_23 : decode cX5_sign 23 = .ok (.iand, 1) := by decide +kernel
theorem dX5_sign_24 : decode cX5_sign 24 = .ok (.i2c, 1) := by decide +kernel
theorem dX5_sign_25 : decode cX5_sign 25 = .ok (.goto 4, 3) := by decide +kernel
theorem dX5_sign_28 : decode cX5_sign 28 = .ok (.iconst 0, 1) := by decide +kernel
theorem dX5_sign_29 : decode cX5_sign 29 = .ok (.ireturn, 1) := by decide +kernel
theorem dX5_add_0 : decode cX5_add 0 = .ok (.aload_n 0, 1) := by decide +kernel
theorem dX5_add_1 : decode cX5_add 1 = .ok (.getfield 38, 3) := by decide +kernel
theorem dX5_add_4 : decode cX5_add 4 = .ok (.aload_n 0, 1) := by decide +kernel
theorem dX5_add_5 : decode cX5_add 5 = .ok (.getfield 9, 3) := by decide +kernel
theorem dX5_add_8 : decode cX5_add 8 = .ok (.arraylength, 1) := by decide +kernel
theorem dX5_add_9 : decode cX5_add 9 = .ok (.if_icmp .ge 23, 3) := by decide +kernel
theorem dX5_add_12 : decode cX5_add 12 = .ok (.aload_n 0, 1) := by decide +kernel
theorem dX5_add_13 : decode cX5_add 13 = .ok (.getfield 9, 3) := by decide +kernel
theorem dX5_add_16 : decode cX5_add 16 = .ok (.aload_n 0, 1) := by decide +kernel
theorem dX5_add_17 : decode cX5_add 17 = .ok (.getfield 38, 3) := by decide +kernel
theorem dX5_add_20 : decode cX5_add 20 = .ok (.iload_n 1, 1) := by decide +kernel
theorem dX5_add_21 : decode cX5_add 21 = .ok (.iastore, 1) := by decide +kernel
theorem dX5_add_22 : decode cX5_add 22 = .ok (.aload_n 0, 1) := by decide +kernel
theorem dX5_add_23 : decode cX5_add 23 = .ok (.dup, 1) := by decide +kernel
theorem dX5_add_24 : decode cX5_add 24 = .ok (.getfield 38, 3) := by decide +kernel
theorem dX5_add_27 : decode cX5_add 27 = .ok (.iconst 1, 1) := by decide +kernel
theorem dX5_add_28 : decode cX5_add 28 = .ok (.iadd, 1) := by decide +kernel
theorem dX5_add_29 : decode cX5_add 29 = .ok (.putfield 38, 3) := by decide +kernel
theorem dX5_add_32 : decode cX5_add 32 = .ok (.return_, 1) := by decide +kernel
theorem dX6_init_0 : decode cX6_init 0 = .ok (.aload_n 0, 1) := by decide +kernel
theorem dX6_init_1 : decode cX6_init 1 = .ok (.invokespecial 3, 3) := by decide +kernel
theorem dX6_init_4 : decode cX6_init 4 = .ok (.aload_n 0, 1) := by decide +kernel
theorem dX6_init_5 : decode cX6_init 5 = .ok (.bipush 30, 2) := by decide +kernel
theorem dX6_init_7 : decode cX6_init 7 = .ok (.newarray .int, 2) := by decide +kernel
theorem dX6_init_9 : decode cX6_init 9 = .ok (.putfield 11, 3) := by decide +kernel
theorem dX6_init_12 : decode cX6_init 12 = .ok (.return_, 1) := by decide +kernel
theorem dX6_answer_0 : decode cX6_answer 0 = .ok (.aload_n 0, 1) := by decide +kernel
theorem dX6_answer_1 : decode cX6_answer 1 = .ok (.iconst 0, 1) := by decide +kernel
theorem dX6_answer_2 : decode cX6_answer 2 = .ok (.putfield 15, 3) := by decide +kernel
theorem dX6_answer_5 : decode cX6_answer 5 = .ok (.aload_n 0, 1) := by decide +kernel
theorem dX6_answer_6 : decode cX6_answer 6 = .ok (.iconst 0, 1) := by decide +kernel
theorem dX6_answer_7 : decode cX6_answer 7 = .ok (.putfield 19, 3) := by decide +kernel
theorem dX6_answer_10 : decode cX6_answer 10 = .ok (.aload_n 0, 1) := by decide +kernel
theorem dX6_answer_11 : decode cX6_answer 11 = .ok (.iload_n 2, 1) := by decide +kernel
theorem dX6_answer_12 : decode cX6_answer 12 = .ok (.putfield 23, 3) := by decide +kernel
theorem dX6_answer_15 : decode cX6_answer 15 = .ok (.aload_n 0, 1) := by decide +kernel
theorem dX6_answer_16 : decode cX6_answer 16 = .ok (.iload_n 3, 1) := by decide +kernel
theorem dX6_answer_17 : decode cX6_answer 17 = .ok (.putfield 26, 3) := by decide +kernel
theorem dX6_answer_20 : decode cX6_answer 20 = .ok (.aload_n 0, 1) := by decide +kernel
theorem dX6_answer_21 : decode cX6_answer 21 = .ok (.iload 4, 2) := by decide +kernel
theorem dX6_answer_23 : decode cX6_answer 23 = .ok (.putfield 29, 3) := by decide +kernel
theorem dX6_answer_26 : decode cX6_answer 26 = .ok (.iload_n 1, 1) := by decide +kernel
theorem dX6_answer_27 : decode cX6_answer 27 = .ok (.tableswitch 58 0 2 #[25, 36, 47], 25) := by decide +kernel
theorem dX6_answer_52 : decode cX6_answer 52 = .ok (.aload_n 0, 1) := by decide +kernel
theorem dX6_answer_53 : decode cX6_answer 53 = .ok (.aload_n 0, 1) := by decide +kernel
theorem dX6_answer_54 : decode cX6_answer 54 = .ok (.getfield 23, 3) := by decide +kernel
theorem dX6_answer_57 : decode cX6_answer 57 = .ok (.iload 5, 2) := by decide +kernel
theorem dX6_answer_59 : decode cX6_answer 59 = .ok (.invokevirtual 32, 3) := by decide +kernel
theorem dX6_answer_62 : decode cX6_answer 62 = .ok (.ireturn, 1) := by decide +kernel
theorem dX6_answer_63 : decode cX6_answer 63 = .ok (.aload_n 0, 1) := by decide +kernel
theorem dX6_answer_64 : decode cX6_answer 64 = .ok (.aload_n 0, 1) := by decide +kernel
theorem dX6_answer_65 : decode cX6_answer 65 = .ok (.getfield 23, 3) := by decide +kernel
theorem dX6_answer_68 : decode cX6_answer 68 = .ok (.iload 5, 2) := by decide +kernel
theorem dX6_answer_70 : decode cX6_answer 70 = .ok (.invokevirtual 36, 3) := by decide +kernel
theorem dX6_answer_73 : decode cX6_answer 73 = .ok (.ireturn, 1) := by decide +kernel
theorem dX6_answer_74 : decode cX6_answer 74 = .ok (.aload_n 0, 1) := by decide +kernel
theorem dX6_answer_75 : decode cX6_answer 75 = .ok (.aload_n 0, 1) := by decide +kernel
theorem dX6_answer_76 : decode cX6_answer 76 = .ok (.getfield 23, 3) := by decide +kernel
theorem dX6_answer_79 : decode cX6_answer 79 = .ok (.iload 5, 2) := by decide +kernel
theorem dX6_answer_81 : decode cX6_answer 81 = .ok (.invokevirtual 39, 3) := by decide +kernel
theorem dX6_answer_84 : decode cX6_answer 84 = .ok (.ireturn, 1) := by decide +kernel
theorem dX6_answer_85 : decode cX6_answer 85 = .ok (.aload_n 0, 1) := by decide +kernel
theorem dX6_answer_86 : decode cX6_answer 86 = .ok (.aload_n 0, 1) := by decide +kernel
theorem dX6_answer_87 : decode cX6_answer 87 = .ok (.getfield 23, 3) := by decide +kernel
theorem dX6_answer_90 : decode cX6_answer 90 = .ok (.iload 5, 2) := by decide +kernel
theorem dX6_answer_92 : decode cX6_answer 92 = .ok (.invokevirtual 42, 3) := by decide +kernel
theorem dX6_answer_95 : decode cX6_answer 95 = .ok (.ireturn, 1) := by decide +kernel
theorem dX6_begins_0 : decode cX6_begins 0 = .ok (.aload_n 0, 1) := by decide +kernel
theorem dX6_begins_1 : decode cX6_begins 1 = .ok (.getfield 15, 3) := by decide +kernel
theorem dX6_begins_4 : decode cX6_begins 4 = .ok (.bipush 30, 2) := by decide +kernel
theorem dX6_begins_6 : decode cX6_begins 6 = .ok (.if_icmp .ge 23, 3) := by decide +kernel
theorem dX6_begins_9 : decode cX6_begins 9 = .ok (.aload_n 0, 1) := by decide +kernel
theorem dX6_begins_10 : decode cX6_begins 10 = .ok (.getfield 11, 3) := by decide +kernel
theorem dX6_begins_13 : decode cX6_begins 13 = .ok (.aload_n 0, 1) := by decide +kernel
theorem dX6_begins_14 : decode cX6_begins 14 = .ok (.getfield 15, 3) := by decide +kernel
theorem dX6_begins_17 : decode cX6_begins 17 = .ok (.iload_n 1, 1) := by decide +kernel
theorem dX6_begins_18 : decode cX6_begins 18 = .ok (.iastore, 1) := by decide +kernel
theorem dX6_begins_19 : decode cX6_begins 19 = .ok (.aload_n 0, 1) := by decide +kernel
theorem dX6_begins_20 : decode cX6_begins 20 = .ok (.dup, 1) := by decide +kernel
theorem dX6_begins_21 : decode cX6_begins 21 = .ok (.getfield 15, 3) := by decide +kernel
theorem dX6_begins_24 : decode cX6_begins 24 = .ok (.iconst 1, 1) := by decide +kernel
theorem dX6_begins_25 : decode cX6_begins 25 = .ok (.iadd, 1) := by decide +kernel
theorem dX6_begins_26 : decode cX6_begins 26 = .ok (.putfield 15, 3) := by decide +kernel
theorem dX6_begins_29 : decode cX6_begins 29 = .ok (.return_, 1) := by decide +kernel
theorem dX6_sings_0 : decode cX6_sings 0 = .ok (.iload_n 1, 1) := by decide +kernel
theorem dX6_sings_1 : decode cX6_sings 1 = .ok (.lookupswitch 74 #[(1, 35), (4, 50), (6, 65)], 35) := by decide +kernel
theorem dX6_sings_36 : decode cX6_sings 36 = .ok (.aload_n 0, 1) := by decide +kernel
theorem dX6_sings_37 : decode cX6_sings 37 = .ok (.bipush 20, 2) := by decide +kernel
theorem dX6_sings_39 : decode cX6_sings 39 = .ok (.invokevirtual 45, 3) := by decide +kernel
theorem dX6_sings_42 : decode cX6_sings 42 = .ok (.aload_n 0, 1) := by decide +kernel
theorem dX6_sings_43 : decode cX6_sings 43 = .ok (.iconst 0, 1) := by decide +kernel
theorem dX6_sings_44 : decode cX6_sings 44 = .ok (.iload_n 2, 1) := by decide +kernel
theorem dX6_sings_45 : decode cX6_sings 45 = .ok (.invokevirtual 32, 3) := by decide +kernel
theorem dX6_sings_48 : decode cX6_sings 48 = .ok (.iconst 4, 1) := by decide +kernel
theorem dX6_sings_49 : decode cX6_sings 49 = .ok (.isub, 1) := by decide +kernel
theorem dX6_sings_50 : decode cX6_sings 50 = .ok (.ireturn, 1) := by decide +kernel
theorem dX6_sings_51 : decode cX6_sings 51 = .ok (.aload_n 0, 1) := by decide +kernel
theorem dX6_sings_52 : decode cX6_sings 52 = .ok (.bipush 50, 2) := by decide +kernel
theorem dX6_sings_54 : decode cX6_sings 54 = .ok (.invokevirtual 45, 3) := by decide +kernel
theorem dX6_sings_57 : decode cX6_sings 57 = .ok (.aload_n 0, 1) := by decide +kernel
theorem dX6_sings_58 : decode cX6_sings 58 = .ok (.iconst 1, 1) := by decide +kernel
theorem dX6_sings_59 : decode cX6_sings 59 = .ok (.iload_n 2, 1) := by decide +kernel
theorem dX6_sings_60 : decode cX6_sings 60 = .ok (.invokevirtual 32, 3) := by decide +kernel
theorem dX6_sings_63 : decode cX6_sings 63 = .ok (.iconst 3, 1) := by decide +kernel
theorem dX6_sings_64 : decode cX6_sings 64 = .ok (.imul, 1) := by decide +kernel
theorem dX6_sings_65 : decode cX6_sings 65 = .ok (.ireturn, 1) := by decide +kernel
theorem dX6_sings_66 : decode cX6_sings 66 = .ok (.aload_n 0, 1) := by decide +kernel
theorem dX6_sings_67 : decode cX6_sings 67 = .ok (.bipush 70, 2) := by decide +kernel
theorem dX6_sings_69 : decode cX6_sings 69 = .ok (.invokevirtual 45, 3) := by decide +kernel
theorem dX6_sings_72 : decode cX6_sings 72 = .ok (.bipush 9, 2) := by decide +kernel
theorem dX6_sings_74 : decode cX6_sings 74 = .ok (.ireturn, 1) := by decide +kernel
theorem dX6_sings_75 : decode cX6_sings 75 = .ok (.aload_n 0, 1) := by decide +kernel
theorem dX6_sings_76 : decode cX6_sings 76 = .ok (.bipush 10, 2) := by decide +kernel
theorem dX6_sings_78 : decode cX6_sings 78 = .ok (.invokevirtual 45, 3) := by decide +kernel
theorem dX6_sings_81 : decode cX6_sings 81 = .ok (.iload_n 2, 1) := by decide +kernel
theorem dX6_sings_82 : decode cX6_sings 82 = .ok (.aload_n 0, 1) := by decide +kernel
theorem dX6_sings_83 : decode cX6_sings 83 = .ok (.getfield 29, 3) := by decide +kernel
theorem dX6_sings_86 : decode cX6_sings 86 = .ok (.iadd, 1) := by decide +kernel
theorem dX6_sings_87 : decode cX6_sings 87 = .ok (.ireturn, 1) := by decide +kernel
theorem dX6_leans_0 : decode cX6_leans 0 = .ok (.iload_n 1, 1) := by decide +kernel
theorem dX6_leans_1 : decode cX6_leans 1 = .ok (.tableswitch 83 2 6 #[35, 83, 83, 50, 65], 35) := by decide +kernel
theorem dX6_leans_36 : decode cX6_leans 36 = .ok (.aload_n 0, 1) := by decide +kernel
theorem dX6_leans_37 : decode cX6_leans 37 = .ok (.bipush 30, 2) := by decide +kernel
theorem dX6_leans_39 : decode cX6_leans 39 = .ok (.invokevirtual 45, 3) := by decide +kernel
theorem dX6_leans_42 : decode cX6_leans 42 = .ok (.iconst 0, 1) := by decide +kernel
theorem dX6_leans_43 : decode cX6_leans 43 = .ok (.aload_n 0, 1) := by decide +kernel
theorem dX6_leans_44 : decode cX6_leans 44 = .ok (.iconst 0, 1) := by decide +kernel
theorem dX6_leans_45 : decode cX6_leans 45 = .ok (.iload_n 2, 1) := by decide +kernel
theorem dX6_leans_46 : decode cX6_leans 46 = .ok (.invokevirtual 36, 3) := by decide +kernel
theorem dX6_leans_49 : decode cX6_leans 49 = .ok (.isub, 1) := by decide +kernel
theorem dX6_leans_50 : decode cX6_leans 50 = .ok (.ireturn, 1) := by decide +kernel
theorem dX6_leans_51 : decode cX6_leans 51 = .ok (.aload_n 0, 1) := by decide +kernel
theorem dX6_leans_52 : decode cX6_leans 52 = .ok (.bipush 60, 2) := by decide +kernel
theorem dX6_leans_54 : decode cX6_leans 54 = .ok (.invokevirtual 45, 3) := by decide +kernel
theorem dX6_leans_57 : decode cX6_leans 57 = .ok (.aload_n 0, 1) := by decide +kernel
theorem dX6_leans_58 : decode cX6_leans 58 = .ok (.iconst 2, 1) := by decide +kernel
theorem dX6_leans_59 : decode cX6_leans 59 = .ok (.iload_n 2, 1) := by decide +kernel
theorem dX6_leans_60 : decode cX6_leans 60 = .ok (.iconst 1, 1) := by decide +kernel
theorem dX6_leans_61 : decode cX6_leans 61 = .ok (.iadd, 1) := by decide +kernel
theorem dX6_leans_62 : decode cX6_leans 62 = .ok (.invokevirtual 36, 3) := by decide +kernel
theorem dX6_leans_65 : decode cX6_leans 65 = .ok (.ireturn, 1) := by decide +kernel
theorem dX6_leans_66 : decode cX6_leans 66 = .ok (.aload_n 0, 1) := by decide +kernel
theorem dX6_leans_67 : decode cX6_leans 67 = .ok (.bipush 71, 2) := by decide +kernel
theorem dX6_leans_69 : decode cX6_leans 69 = .ok (.invokevirtual 45, 3) := by decide +kernel
theorem dX6_leans_72 : decode cX6_leans 72 = .ok (.aload_n 0, 1) := by decide +kernel
theorem dX6_leans_73 : decode cX6_leans 73 = .ok (.iconst 0, 1) := by decide +kernel
theorem dX6_leans_74 : decode cX6_leans 74 = .ok (.iload_n 2, 1) := by decide +kernel
theorem dX6_leans_75 : decode cX6_leans 75 = .ok (.invokevirtual 36, 3) := by decide +kernel
theorem dX6_leans_78 : decode cX6_leans 78 = .ok (.aload_n 0, 1) := by decide +kernel
theorem dX6_leans_79 : decode cX6_leans 79 = .ok (.getfield 26, 3) := by decide +kernel
theorem dX6_leans_82 : decode cX6_leans 82 = .ok (.iadd, 1) := by decide +kernel
theorem dX6_leans_83 : decode cX6_leans 83 = .ok (.ireturn, 1) := by decide +kernel
theorem dX6_leans_84 : decode cX6_leans 84 = .ok (.aload_n 0, 1) := by decide +kernel
theorem dX6_leans_85 : decode cX6_leans 85 = .ok (.bipush 11, 2) := by decide +kernel
theorem dX6_leans_87 : decode cX6_leans 87 = .ok (.invokevirtual 45, 3) := by decide +kernel
theorem dX6_leans_90 : decode cX6_leans 90 = .ok (.aload_n 0, 1) := by decide +kernel
theorem dX6_leans_91 : decode cX6_leans 91 = .ok (.aload_n 0, 1) := by decide +kernel
theorem dX6_leans_92 : decode cX6_leans 92 = .ok (.getfield 23, 3) := by decide +kernel
theorem dX6_leans_95 : decode cX6_leans 95 = .ok (.iload_n 2, 1) := by decide +kernel
theorem dX6_leans_96 : decode cX6_leans 96 = .ok (.invokevirtual 32, 3) := by decide +kernel
theorem dX6_leans_99 : decode cX6_leans 99 = .ok (.iconst 2, 1) := by decide +kernel
theorem dX6_leans_100 : decode cX6_leans 100 = .ok (.imul, 1) := by decide +kernel
theorem dX6_leans_101 : decode cX6_leans 101 = .ok (.ireturn, 1) := by decide +kernel
theorem dX6_sprouts_0 : decode cX6_sprouts 0 = .ok (.iload_n 1, 1) := by decide +kernel
theorem dX6_sprouts_1 : decode cX6_sprouts 1 = .ok (.lookupswitch 60 #[(3, 27), (4, 42)], 27) := by decide +kernel
theorem dX6_sprouts_28 : decode cX6_sprouts 28 = .ok (.aload_n 0, 1) := by decide +kernel
theorem dX6_sprouts_29 : decode cX6_sprouts 29 = .ok (.bipush 40, 2) := by decide +kernel
theorem dX6_sprouts_31 : decode cX6_sprouts 31 = .ok (.invokevirtual 45, 3) := by decide +kernel
theorem dX6_sprouts_34 : decode cX6_sprouts 34 = .ok (.aload_n 0, 1) := by decide +kernel
theorem dX6_sprouts_35 : decode cX6_sprouts 35 = .ok (.iconst 0, 1) := by decide +kernel
theorem dX6_sprouts_36 : decode cX6_sprouts 36 = .ok (.iload_n 2, 1) := by decide +kernel
theorem dX6_sprouts_37 : decode cX6_sprouts 37 = .ok (.iconst 2, 1) := by decide +kernel
theorem dX6_sprouts_38 : decode cX6_sprouts 38 = .ok (.idiv, 1) := by decide +kernel
theorem dX6_sprouts_39 : decode cX6_sprouts 39 = .ok (.invokevirtual 39, 3) := by decide +kernel
theorem dX6_sprouts_42 : decode cX6_sprouts 42 = .ok (.ireturn, 1) := by decide +kernel
theorem dX6_sprouts_43 : decode cX6_sprouts 43 = .ok (.aload_n 0, 1) := by decide +kernel
theorem dX6_sprouts_44 : decode cX6_sprouts 44 = .ok (.bipush 51, 2) := by decide +kernel
theorem dX6_sprouts_46 : decode cX6_sprouts 46 = .ok (.invokevirtual 45, 3) := by decide +kernel
theorem dX6_sprouts_49 : decode cX6_sprouts 49 = .ok (.aload_n 0, 1) := by decide +kernel
theorem dX6_sprouts_50 : decode cX6_sprouts 50 = .ok (.iconst 1, 1) := by decide +kernel
theorem dX6_sprouts_51 : decode cX6_sprouts 51 = .ok (.iload_n 2, 1) := by decide +kernel
theorem dX6_sprouts_52 : decode cX6_sprouts 52 = .ok (.invokevirtual 39, 3) := by decide +kernel
theorem dX6_sprouts_55 : decode cX6_sprouts 55 = .ok (.aload_n 0, 1) := by decide +kernel
theorem dX6_sprouts_56 : decode cX6_sprouts 56 = .ok (.getfield 29, 3) := by decide +kernel
theorem dX6_sprouts_59 : decode cX6_sprouts 59 = .ok (.ixor, 1) := by decide +kernel
theorem dX6_sprouts_60 : decode cX6_sprouts 60 = .ok (.ireturn, 1) := by decide +kernel
theorem dX6_sprouts_61 : decode cX6_sprouts 61 = .ok (.aload_n 0, 1) := by decide +kernel
theorem dX6_sprouts_62 : decode cX6_sprouts 62 = .ok (.bipush 12, 2) := by decide +kernel
theorem dX6_sprouts_64 : decode cX6_sprouts 64 = .ok (.invokevirtual 45, 3) := by decide +kernel
theorem dX6_sprouts_67 : decode cX6_sprouts 67 = .ok (.aload_n 0, 1) := by decide +kernel
theorem dX6_sprouts_68 : decode cX6_sprouts 68 = .ok (.aload_n 0, 1) := by decide +kernel
theorem dX6_sprouts_69 : decode cX6_sprouts 69 = .ok (.getfield 23, 3) := by decide +kernel
theorem dX6_sprouts_72 : decode cX6_sprouts 72 = .ok (.iload_n 2, 1) := by decide +kernel
theorem dX6_sprouts_73 : decode cX6_sprouts 73 = .ok (.invokevirtual 36, 3) := by decide +kernel
theorem dX6_sprouts_76 : decode cX6_sprouts 76 = .ok (.aload_n 0, 1) := by decide +kernel
theorem dX6_sprouts_77 : decode cX6_sprouts 77 = .ok (.getfield 26, 3) := by decide +kernel
theorem dX6_sprouts_80 : decode cX6_sprouts 80 = .ok (.isub, 1) := by decide +kernel
theorem dX6_sprouts_81 : decode cX6_sprouts 81 = .ok (.ireturn, 1) := by decide +kernel
theorem dX6_parts_0 : decode cX6_parts 0 = .ok (.iload_n 1, 1) := by decide +kernel
theorem dX6_parts_1 : decode cX6_parts 1 = .ok (.lookupswitch 63 #[(1, 27), (4, 27)], 27) := by decide +kernel
theorem dX6_parts_28 : decode cX6_parts 28 = .ok (.aload_n 0, 1) := by decide +kernel
theorem dX6_parts_29 : decode cX6_parts 29 = .ok (.bipush 21, 2) := by decide +kernel
theorem dX6_parts_31 : decode cX6_parts 31 = .ok (.invokevirtual 45, 3) := by decide +kernel
theorem dX6_parts_34 : decode cX6_parts 34 = .ok (.aload_n 0, 1) := by decide +kernel
theorem dX6_parts_35 : decode cX6_parts 35 = .ok (.iconst 0, 1) := by decide +kernel
theorem dX6_parts_36 : decode cX6_parts 36 = .ok (.iload_n 2, 1) := by decide +kernel
theorem dX6_parts_37 : decode cX6_parts 37 = .ok (.invokevirtual 42, 3) := by decide +kernel
theorem dX6_parts_40 : decode cX6_parts 40 = .ok (.istore_n 3, 1) := by decide +kernel
theorem dX6_parts_41 : decode cX6_parts 41 = .ok (.aload_n 0, 1) := by decide +kernel
theorem dX6_parts_42 : decode cX6_parts 42 = .ok (.getfield 19, 3) := by decide +kernel
theorem dX6_parts_45 : decode cX6_parts 45 = .ok (.ifCond .eq 7, 3) := by decide +kernel
theorem dX6_parts_48 : decode cX6_parts 48 = .ok (.iconst 0, 1) := by decide +kernel
theorem dX6_parts_49 : decode cX6_parts 49 = .ok (.goto 14, 3) := by decide +kernel
theorem dX6_parts_52 : decode cX6_parts 52 = .ok (.iload_n 3, 1) := by decide +kernel
theorem dX6_parts_53 : decode cX6_parts 53 = .ok (.aload_n 0, 1) := by decide +kernel
theorem dX6_parts_54 : decode cX6_parts 54 = .ok (.aload_n 0, 1) := by decide +kernel
theorem dX6_parts_55 : decode cX6_parts 55 = .ok (.getfield 23, 3) := by decide +kernel
theorem dX6_parts_58 : decode cX6_parts 58 = .ok (.iconst 1, 1) := by decide +kernel
theorem dX6_parts_59 : decode cX6_parts 59 = .ok (.invokevirtual 36, 3) := by decide +kernel
theorem dX6_parts_62 : decode cX6_parts 62 = .ok (.iadd, 1) := by decide +kernel
theorem dX6_parts_63 : decode cX6_parts 63 = .ok (.ireturn, 1) := by decide +kernel
theorem dX6_parts_64 : decode cX6_parts 64 = .ok (.aload_n 0, 1) := by decide +kernel
theorem dX6_parts_65 : decode cX6_parts 65 = .ok (.bipush 13, 2) := by decide +kernel
theorem dX6_parts_67 : decode cX6_parts 67 = .ok (.invokevirtual 45, 3) := by decide +kernel
theorem dX6_parts_70 : decode cX6_parts 70 = .ok (.aload_n 0, 1) := by decide +kernel
theorem dX6_parts_71 : decode cX6_parts 71 = .ok (.getfield 26, 3) := by decide +kernel
theorem dX6_parts_74 : decode cX6_parts 74 = .ok (.aload_n 0, 1) := by decide +kernel
theorem dX6_parts_75 : decode cX6_parts 75 = .ok (.getfield 29, 3) := by decide +kernel
theorem dX6_parts_78 : decode cX6_parts 78 = .ok (.isub, 1) := by decide +kernel
theorem dX6_parts_79 : decode cX6_parts 79 = .ok (.istore 4, 2) := by decide +kernel
theorem dX6_parts_81 : decode cX6_parts 81 = .ok (.aload_n 0, 1) := by decide +kernel
theorem dX6_parts_82 : decode cX6_parts 82 = .ok (.iload 4, 2) := by decide +kernel
theorem dX6_parts_84 : decode cX6_parts 84 = .ok (.ifCond .ne 7, 3) := by decide +kernel
theorem dX6_parts_87 : decode cX6_parts 87 = .ok (.iconst 1, 1) := by decide +kernel
theorem dX6_parts_88 : decode cX6_parts 88 = .ok (.goto 4, 3) := by decide +kernel
theorem dX6_parts_91 : decode cX6_parts 91 = .ok (.iconst 0, 1) := by decide +kernel
theorem dX6_parts_92 : decode cX6_parts 92 = .ok (.putfield 19, 3) := by decide +kernel
theorem dX6_parts_95 : decode cX6_parts 95 = .ok (.iload 4, 2) := by decide +kernel
theorem dX6_parts_97 : decode cX6_parts 97 = .ok (.ifCond .ne 7, 3) := by decide +kernel
theorem dX6_parts_100 : decode cX6_parts 100 = .ok (.iconst 0, 1) := by decide +kernel
theorem dX6_parts_101 : decode cX6_parts 101 = .ok (.goto 7, 3) := by decide +kernel
theorem dX6_parts_104 : decode cX6_parts 104 = .ok (.iload_n 2, 1) := by decide +kernel
theorem dX6_parts_105 : decode cX6_parts 105 = .ok (.iload 4, 2) := by decide +kernel
theorem dX6_parts_107 : decode cX6_parts 107 = .ok (.idiv, 1) := by decide +kernel
theorem dX6_parts_108 : decode cX6_parts 108 = .ok (.ireturn, 1) := by decide +kernel
