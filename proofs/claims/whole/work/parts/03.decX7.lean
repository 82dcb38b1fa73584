theorem dX7_init_0 : decode cX7_init 0 = .ok (.aload_n 0, 1) := by decide +kernel
theorem dX7_init_1 : decode cX7_init 1 = .ok (.invokespecial 1, 3) := by decide +kernel
theorem dX7_init_4 : decode cX7_init 4 = .ok (.aload_n 0, 1) := by decide +kernel
theorem dX7_init_5 : decode cX7_init 5 = .ok (.new 7, 3) := by decide +kernel
theorem dX7_init_8 : decode cX7_init 8 = .ok (.dup, 1) := by decide +kernel
theorem dX7_init_9 : decode cX7_init 9 = .ok (.invokespecial 9, 3) := by decide +kernel
theorem dX7_init_12 : decode cX7_init 12 = .ok (.putfield 10, 3) := by decide +kernel
theorem dX7_init_15 : decode cX7_init 15 = .ok (.aload_n 0, 1) := by decide +kernel
theorem dX7_init_16 : decode cX7_init 16 = .ok (.new 7, 3) := by decide +kernel
theorem dX7_init_19 : decode cX7_init 19 = .ok (.dup, 1) := by decide +kernel
theorem dX7_init_20 : decode cX7_init 20 = .ok (.invokespecial 9, 3) := by decide +kernel
theorem dX7_init_23 : decode cX7_init 23 = .ok (.putfield 16, 3) := by decide +kernel
theorem dX7_init_26 : decode cX7_init 26 = .ok (.aload_n 0, 1) := by decide +kernel
theorem dX7_init_27 : decode cX7_init 27 = .ok (.new 7, 3) := by decide +kernel
theorem dX7_init_30 : decode cX7_init 30 = .ok (.dup, 1) := by decide +kernel
theorem dX7_init_31 : decode cX7_init 31 = .ok (.invokespecial 9, 3) := by decide +kernel
theorem dX7_init_34 : decode cX7_init 34 = .ok (.putfield 19, 3) := by decide +kernel
theorem dX7_init_37 : decode cX7_init 37 = .ok (.aload_n 0, 1) := by decide +kernel
theorem dX7_init_38 : decode cX7_init 38 = .ok (.new 22, 3) := by decide +kernel
theorem dX7_init_41 : decode cX7_init 41 = .ok (.dup, 1) := by decide +kernel
theorem dX7_init_42 : decode cX7_init 42 = .ok (.invokespecial 24, 3) := by decide +kernel
theorem dX7_init_45 : decode cX7_init 45 = .ok (.putfield 25, 3) := by decide +kernel
theorem dX7_init_48 : decode cX7_init 48 = .ok (.aload_n 0, 1) := by decide +kernel
theorem dX7_init_49 : decode cX7_init 49 = .ok (.new 29, 3) := by decide +kernel
theorem dX7_init_52 : decode cX7_init 52 = .ok (.dup, 1) := by decide +kernel
theorem dX7_init_53 : decode cX7_init 53 = .ok (.invokespecial 31, 3) := by decide +kernel
theorem dX7_init_56 : decode cX7_init 56 = .ok (.putfield 32, 3) := by decide +kernel
theorem dX7_init_59 : decode cX7_init 59 = .ok (.aload_n 0, 1) := by decide +kernel
theorem dX7_init_60 : decode cX7_init 60 = .ok (.iconst 4, 1) := by decide +kernel
theorem dX7_init_61 : decode cX7_init 61 = .ok (.anewarray 36, 3) := by decide +kernel
theorem dX7_init_64 : decode cX7_init 64 = .ok (.putfield 38, 3) := by decide +kernel
theorem dX7_init_67 : decode cX7_init 67 = .ok (.aload_n 0, 1) := by decide +kernel
theorem dX7_init_68 : decode cX7_init 68 = .ok (.bipush 7, 2) := by decide +kernel
theorem dX7_init_70 : decode cX7_init 70 = .ok (.newarray .int, 2) := by decide +kernel
theorem dX7_init_72 : decode cX7_init 72 = .ok (.putfield 42, 3) := by decide +kernel
theorem dX7_init_75 : decode cX7_init 75 = .ok (.iconst 0, 1) := by decide +kernel
theorem dX7_init_76 : decode cX7_init 76 = .ok (.istore_n 1, 1) := by decide +kernel
theorem dX7_init_77 : decode cX7_init 77 = .ok (.iload_n 1, 1) := by decide +kernel
theorem dX7_init_78 : decode cX7_init 78 = .ok (.iconst 4, 1) := by decide +kernel
theorem dX7_init_79 : decode cX7_init 79 = .ok (.if_icmp .ge 22, 3) := by decide +kernel
theorem dX7_init_82 : decode cX7_init 82 = .ok (.aload_n 0, 1) := by decide +kernel
theorem dX7_init_83 : decode cX7_init 83 = .ok (.getfield 38, 3) := by decide +kernel
theorem dX7_init_86 : decode cX7_init 86 = .ok (.iload_n 1, 1) := by decide +kernel
theorem dX7_init_87 : decode cX7_init 87 = .ok (.new 36, 3) := by decide +kernel
theorem dX7_init_90 : decode cX7_init 90 = .ok (.dup, 1) := by decide +kernel
theorem dX7_init_91 : decode cX7_init 91 = .ok (.invokespecial 46, 3) := by decide +kernel
theorem dX7_init_94 : decode cX7_init 94 = .ok (.aastore, 1) := by decide +kernel
theorem dX7_init_95 : decode cX7_init 95 = .ok (.iinc 1 1, 3) := by decide +kernel
theorem dX7_init_98 : decode cX7_init 98 = .ok (.goto (-21), 3) := by decide +kernel
theorem dX7_init_101 : decode cX7_init 101 = .ok (.return_, 1) := by decide +kernel
theorem dX7_fence_0 : decode cX7_fence 0 = .ok (.iload_n 1, 1) := by decide +kernel
theorem dX7_fence_1 : decode cX7_fence 1 = .ok (.invokestatic 47, 3) := by decide +kernel
theorem dX7_fence_4 : decode cX7_fence 4 = .ok (.ifCond .eq 10, 3) := by decide +kernel
theorem dX7_fence_7 : decode cX7_fence 7 = .ok (.iload_n 2, 1) := by decide +kernel
theorem dX7_fence_8 : decode cX7_fence 8 = .ok (.invokestatic 51, 3) := by decide +kernel
theorem dX7_fence_11 : decode cX7_fence 11 = .ok (.ifCond .ne 9, 3) := by decide +kernel
theorem dX7_fence_14 : decode cX7_fence 14 = .ok (.aload_n 0, 1) := by decide +kernel
theorem dX7_fence_15 : decode cX7_fence 15 = .ok (.iconst 1, 1) := by decide +kernel
theorem dX7_fence_16 : decode cX7_fence 16 = .ok (.invokevirtual 54, 3) := by decide +kernel
theorem dX7_fence_19 : decode cX7_fence 19 = .ok (.ireturn, 1) := by decide +kernel
theorem dX7_fence_20 : decode cX7_fence 20 = .ok (.aload_n 0, 1) := by decide +kernel
theorem dX7_fence_21 : decode cX7_fence 21 = .ok (.getfield 10, 3) := by decide +kernel
theorem dX7_fence_24 : decode cX7_fence 24 = .ok (.getfield 58, 3) := by decide +kernel
theorem dX7_fence_27 : decode cX7_fence 27 = .ok (.iconst 4, 1) := by decide +kernel
theorem dX7_fence_28 : decode cX7_fence 28 = .ok (.if_icmp .lt 9, 3) := by decide +kernel
theorem dX7_fence_31 : decode cX7_fence 31 = .ok (.aload_n 0, 1) := by decide +kernel
theorem dX7_fence_32 : decode cX7_fence 32 = .ok (.iconst 4, 1) := by decide +kernel
theorem dX7_fence_33 : decode cX7_fence 33 = .ok (.invokevirtual 54, 3) := by decide +kernel
theorem dX7_fence_36 : decode cX7_fence 36 = .ok (.ireturn, 1) := by decide +kernel
theorem dX7_fence_37 : decode cX7_fence 37 = .ok (.aload_n 0, 1) := by decide +kernel
theorem dX7_fence_38 : decode cX7_fence 38 = .ok (.getfield 10, 3) := by decide +kernel
theorem dX7_fence_41 : decode cX7_fence 41 = .ok (.getfield 62, 3) := by decide +kernel
theorem dX7_fence_44 : decode cX7_fence 44 = .ok (.aload_n 0, 1) := by decide +kernel
theorem dX7_fence_45 : decode cX7_fence 45 = .ok (.getfield 10, 3) := by decide +kernel
theorem dX7_fence_48 : decode cX7_fence 48 = .ok (.getfield 58, 3) := by decide +kernel
theorem dX7_fence_51 : decode cX7_fence 51 = .ok (.aaload, 1) := by decide +kernel
theorem dX7_fence_52 : decode cX7_fence 52 = .ok (.iload_n 1, 1) := by decide +kernel
theorem dX7_fence_53 : decode cX7_fence 53 = .ok (.iload_n 2, 1) := by decide +kernel
theorem dX7_fence_54 : decode cX7_fence 54 = .ok (.invokevirtual 66, 3) := by decide +kernel
theorem dX7_fence_57 : decode cX7_fence 57 = .ok (.aload_n 0, 1) := by decide +kernel
theorem dX7_fence_58 : decode cX7_fence 58 = .ok (.getfield 10, 3) := by decide +kernel
theorem dX7_fence_61 : decode cX7_fence 61 = .ok (.dup, 1) := by decide +kernel
theorem dX7_fence_62 : decode cX7_fence 62 = .ok (.getfield 58, 3) := by decide +kernel
theorem dX7_fence_65 : decode cX7_fence 65 = .ok (.iconst 1, 1) := by decide +kernel
theorem dX7_fence_66 : decode cX7_fence 66 = .ok (.iadd, 1) := by decide +kernel
theorem dX7_fence_67 : decode cX7_fence 67 = .ok (.putfield 58, 3) := by decide +kernel
theorem dX7_fence_70 : decode cX7_fence 70 = .ok (.aload_n 0, 1) := by decide +kernel
theorem dX7_fence_71 : decode cX7_fence 71 = .ok (.getfield 10, 3) := by decide +kernel
theorem dX7_fence_74 : decode cX7_fence 74 = .ok (.getfield 58, 3) := by decide +kernel
theorem dX7_fence_77 : decode cX7_fence 77 = .ok (.iconst 1, 1) := by decide +kernel
theorem dX7_fence_78 : decode cX7_fence 78 = .ok (.isub, 1) := by decide +kernel
theorem dX7_fence_79 : decode cX7_fence 79 = .ok (.ireturn, 1) := by decide +kernel
theorem dX7_post_0 : decode cX7_post 0 = .ok (.aload_n 0, 1) := by decide +kernel
theorem dX7_post_1 : decode cX7_post 1 = .ok (.iload_n 1, 1) := by decide +kernel
theorem dX7_post_2 : decode cX7_post 2 = .ok (.invokevirtual 72, 3) := by decide +kernel
theorem dX7_post_5 : decode cX7_post 5 = .ok (.ifCond .eq 10, 3) := by decide +kernel
theorem dX7_post_8 : decode cX7_post 8 = .ok (.iload_n 2, 1) := by decide +kernel
theorem dX7_post_9 : decode cX7_post 9 = .ok (.invokestatic 75, 3) := by decide +kernel
theorem dX7_post_12 : decode cX7_post 12 = .ok (.ifCond .ne 9, 3) := by decide +kernel
theorem dX7_post_15 : decode cX7_post 15 = .ok (.aload_n 0, 1) := by decide +kernel
theorem dX7_post_16 : decode cX7_post 16 = .ok (.iconst 1, 1) := by decide +kernel
theorem dX7_post_17 : decode cX7_post 17 = .ok (.invokevirtual 54, 3) := by decide +kernel
theorem dX7_post_20 : decode cX7_post 20 = .ok (.ireturn, 1) := by decide +kernel
theorem dX7_post_21 : decode cX7_post 21 = .ok (.aload_n 0, 1) := by decide +kernel
theorem dX7_post_22 : decode cX7_post 22 = .ok (.getfield 10, 3) := by decide +kernel
theorem dX7_post_25 : decode cX7_post 25 = .ok (.getfield 62, 3) := by decide +kernel
theorem dX7_post_28 : decode cX7_post 28 = .ok (.iload_n 1, 1) := by decide +kernel
theorem dX7_post_29 : decode cX7_post 29 = .ok (.aaload, 1) := by decide +kernel
theorem dX7_post_30 : decode cX7_post 30 = .ok (.astore_n 3, 1) := by decide +kernel
theorem dX7_post_31 : decode cX7_post 31 = .ok (.aload_n 3, 1) := by decide +kernel
theorem dX7_post_32 : decode cX7_post 32 = .ok (.getfield 80, 3) := by decide +kernel
theorem dX7_post_35 : decode cX7_post 35 = .ok (.bipush 8, 2) := by decide +kernel
theorem dX7_post_37 : decode cX7_post 37 = .ok (.if_icmp .lt 9, 3) := by decide +kernel
theorem dX7_post_40 : decode cX7_post 40 = .ok (.aload_n 0, 1) := by decide +kernel
theorem dX7_post_41 : decode cX7_post 41 = .ok (.iconst 4, 1) := by decide +kernel
theorem dX7_post_42 : decode cX7_post 42 = .ok (.invokevirtual 54, 3) := by decide +kernel
theorem dX7_post_45 : decode cX7_post 45 = .ok (.ireturn, 1) := by decide +kernel
theorem dX7_post_46 : decode cX7_post 46 = .ok (.aload_n 3, 1) := by decide +kernel
theorem dX7_post_47 : decode cX7_post 47 = .ok (.getfield 83, 3) := by decide +kernel
theorem dX7_post_50 : decode cX7_post 50 = .ok (.aload_n 3, 1) := by decide +kernel
theorem dX7_post_51 : decode cX7_post 51 = .ok (.getfield 80, 3) := by decide +kernel
theorem dX7_post_54 : decode cX7_post 54 = .ok (.iload_n 2, 1) := by decide +kernel
theorem dX7_post_55 : decode cX7_post 55 = .ok (.iastore, 1) := by decide +kernel
theorem dX7_post_56 : decode cX7_post 56 = .ok (.aload_n 3, 1) := by decide +kernel
theorem dX7_post_57 : decode cX7_post 57 = .ok (.dup, 1) := by decide +kernel
theorem dX7_post_58 : decode cX7_post 58 = .ok (.getfield 80, 3) := by decide +kernel
theorem dX7_post_61 : decode cX7_post 61 = .ok (.iconst 1, 1) := by decide +kernel
theorem dX7_post_62 : decode cX7_post 62 = .ok (.iadd, 1) := by decide +kernel
theorem dX7_post_63 : decode cX7_post 63 = .ok (.putfield 80, 3) := by decide +kernel
theorem dX7_post_66 : decode cX7_post 66 = .ok (.aload_n 3, 1) := by decide +kernel
theorem dX7_post_67 : decode cX7_post 67 = .ok (.getfield 80, 3) := by decide +kernel
theorem dX7_post_70 : decode cX7_post 70 = .ok (.ireturn, 1) := by decide +kernel
theorem dX7_fenceIs_0 : decode cX7_fenceIs 0 = .ok (.aload_n 0, 1) := by decide +kernel
theorem dX7_fenceIs_1 : decode cX7_fenceIs 1 = .ok (.iload_n 1, 1) := by decide +kernel
theorem dX7_fenceIs_2 : decode cX7_fenceIs 2 = .ok (.invokevirtual 72, 3) := by decide +kernel
theorem dX7_fenceIs_5 : decode cX7_fenceIs 5 = .ok (.ifCond .ne 9, 3) := by decide +kernel
theorem dX7_fenceIs_8 : decode cX7_fenceIs 8 = .ok (.aload_n 0, 1) := by decide +kernel
theorem dX7_fenceIs_9 : decode cX7_fenceIs 9 = .ok (.iconst 1, 1) := by decide +kernel
theorem dX7_fenceIs_10 : decode cX7_fenceIs 10 = .ok (.invokevirtual 54, 3) := by decide +kernel
theorem dX7_fenceIs_13 : decode cX7_fenceIs 13 = .ok (.ireturn, 1) := by decide +kernel
theorem dX7_fenceIs_14 : decode cX7_fenceIs 14 = .ok (.aload_n 0, 1) := by decide +kernel
theorem dX7_fenceIs_15 : decode cX7_fenceIs 15 = .ok (.getfield 10, 3) := by decide +kernel
theorem dX7_fenceIs_18 : decode cX7_fenceIs 18 = .ok (.getfield 62, 3) := by decide +kernel
theorem dX7_fenceIs_21 : decode cX7_fenceIs 21 = .ok (.iload_n 1, 1) := by decide +kernel
theorem dX7_fenceIs_22 : decode cX7_fenceIs 22 = .ok (.aaload, 1) := by decide +kernel
theorem dX7_fenceIs_23 : decode cX7_fenceIs 23 = .ok (.astore_n 3, 1) := by decide +kernel
theorem dX7_fenceIs_24 : decode cX7_fenceIs 24 = .ok (.iload_n 2, 1) := by decide +kernel
theorem dX7_fenceIs_25 : decode cX7_fenceIs 25 = .ok (.tableswitch 89 0 6 #[43, 48, 53, 58, 63, 68, 76], 43) := by decide +kernel
theorem dX7_fenceIs_68 : decode cX7_fenceIs 68 = .ok (.aload_n 3, 1) := by decide +kernel
theorem dX7_fenceIs_69 : decode cX7_fenceIs 69 = .ok (.getfield 86, 3) := by decide +kernel
theorem dX7_fenceIs_72 : decode cX7_fenceIs 72 = .ok (.ireturn, 1) := by decide +kernel
theorem dX7_fenceIs_73 : decode cX7_fenceIs 73 = .ok (.aload_n 3, 1) := by decide +kernel
theorem dX7_fenceIs_74 : decode cX7_fenceIs 74 = .ok (.getfield 89, 3) := by decide +kernel
theorem dX7_fenceIs_77 : decode cX7_fenceIs 77 = .ok (.ireturn, 1) := by decide +kernel
theorem dX7_fenceIs_78 : decode cX7_fenceIs 78 = .ok (.aload_n 3, 1) := by decide +kernel
theorem dX7_fenceIs_79 : decode cX7_fenceIs 79 = .ok (.getfield 92, 3) := by decide +kernel
theorem dX7_fenceIs_82 : decode cX7_fenceIs 82 = .ok (.ireturn, 1) := by decide +kernel
theorem dX7_fenceIs_83 : decode cX7_fenceIs 83 = .ok (.aload_n 3, 1) := by decide +kernel
theorem dX7_fenceIs_84 : decode cX7_fenceIs 84 = .ok (.getfield 80, 3) := by decide +kernel
theorem dX7_fenceIs_87 : decode cX7_fenceIs 87 = .ok (.ireturn, 1) := by decide +kernel
theorem dX7_fenceIs_88 : decode cX7_fenceIs 88 = .ok (.aload_n 3, 1) := by decide +kernel
theorem dX7_fenceIs_89 : decode cX7_fenceIs 89 = .ok (.getfield 95, 3) := by decide +kernel
theorem dX7_fenceIs_92 : decode cX7_fenceIs 92 = .ok (.ireturn, 1) := by decide +kernel
theorem dX7_fenceIs_93 : decode cX7_fenceIs 93 = .ok (.aload_n 3, 1) := by decide +kernel
theorem dX7_fenceIs_94 : decode cX7_fenceIs 94 = .ok (.invokevirtual 98, 3) := by decide +kernel
theorem dX7_fenceIs_97 : decode cX7_fenceIs 97 = .ok (.invokestatic 102, 3) := by decide +kernel
theorem dX7_fenceIs_100 : decode cX7_fenceIs 100 = .ok (.ireturn, 1) := by decide +kernel
theorem dX7_fenceIs_101 : decode cX7_fenceIs 101 = .ok (.aload_n 0, 1) := by decide +kernel
theorem dX7_fenceIs_102 : decode cX7_fenceIs 102 = .ok (.getfield 10, 3) := by decide +kernel
theorem dX7_fenceIs_105 : decode cX7_fenceIs 105 = .ok (.aload_n 3, 1) := by decide +kernel
theorem dX7_fenceIs_106 : decode cX7_fenceIs 106 = .ok (.aload_n 3, 1) := by decide +kernel
theorem dX7_fenceIs_107 : decode cX7_fenceIs 107 = .ok (.invokevirtual 98, 3) := by decide +kernel
theorem dX7_fenceIs_110 : decode cX7_fenceIs 110 = .ok (.invokevirtual 108, 3) := by decide +kernel
theorem dX7_fenceIs_113 : decode cX7_fenceIs 113 = .ok (.ireturn, 1) := by decide +kernel
theorem dX7_fenceIs_114 : decode cX7_fenceIs 114 = .ok (.aload_n 0, 1) := by decide +kernel
theorem dX7_fenceIs_115 : decode cX7_fenceIs 115 = .ok (.iconst 1, 1) := by decide +kernel
theorem dX7_fenceIs_116 : decode cX7_fenceIs 116 = .ok (.invokevirtual 54, 3) := by decide +kernel
theorem dX7_fenceIs_119 : decode cX7_fenceIs 119 = .ok (.ireturn, 1) := by decide +kernel
theorem dX7_at_0 : decode cX7_at 0 = .ok (.aload_n 0, 1) := by decide +kernel
theorem dX7_at_1 : decode cX7_at 1 = .ok (.iload_n 1, 1) := by decide +kernel
theorem dX7_at_2 : decode cX7_at 2 = .ok (.iload_n 2, 1) := by decide +kernel
theorem dX7_at_3 : decode cX7_at 3 = .ok (.invokevirtual 112, 3) := by decide +kernel
theorem dX7_at_6 : decode cX7_at 6 = .ok (.ifCond .ne 9, 3) := by decide +kernel
theorem dX7_at_9 : decode cX7_at 9 = .ok (.aload_n 0, 1) := by decide +kernel
theorem dX7_at_10 : decode cX7_at 10 = .ok (.iconst 1, 1) := by decide +kernel
theorem dX7_at_11 : decode cX7_at 11 = .ok (.invokevirtual 54, 3) := by decide +kernel
theorem dX7_at_14 : decode cX7_at 14 = .ok (.ireturn, 1) := by decide +kernel
theorem dX7_at_15 : decode cX7_at 15 = .ok (.aload_n 0, 1) := by decide +kernel
theorem dX7_at_16 : decode cX7_at 16 = .ok (.getfield 10, 3) := by decide +kernel
theorem dX7_at_19 : decode cX7_at 19 = .ok (.getfield 62, 3) := by decide +kernel
theorem dX7_at_22 : decode cX7_at 22 = .ok (.iload_n 1, 1) := by decide +kernel
theorem dX7_at_23 : decode cX7_at 23 = .ok (.aaload, 1) := by decide +kernel
theorem dX7_at_24 : decode cX7_at 24 = .ok (.getfield 83, 3) := by decide +kernel
theorem dX7_at_27 : decode cX7_at 27 = .ok (.iload_n 2, 1) := by decide +kernel
theorem dX7_at_28 : decode cX7_at 28 = .ok (.iaload, 1) := by decide +kernel
theorem dX7_at_29 : decode cX7_at 29 = .ok (.ireturn, 1) := by decide +kernel
theorem dX7_heads_0 : decode cX7_heads 0 = .ok (.aload_n 0, 1) := by decide +kernel
theorem dX7_heads_1 : decode cX7_heads 1 = .ok (.iload_n 1, 1) := by decide +kernel
theorem dX7_heads_2 : decode cX7_heads 2 = .ok (.iload_n 2, 1) := by decide +kernel
theorem dX7_heads_3 : decode cX7_heads 3 = .ok (.invokevirtual 112, 3) := by decide +kernel
theorem dX7_heads_6 : decode cX7_heads 6 = .ok (.ifCond .ne 9, 3) := by decide +kernel
theorem dX7_heads_9 : decode cX7_heads 9 = .ok (.aload_n 0, 1) := by decide +kernel
theorem dX7_heads_10 : decode cX7_heads 10 = .ok (.iconst 1, 1) := by decide +kernel
theorem dX7_heads_11 : decode cX7_heads 11 = .ok (.invokevirtual 54, 3) := by decide +kernel
theorem dX7_heads_14 : decode cX7_heads 14 = .ok (.ireturn, 1) := by decide +kernel
theorem dX7_heads_15 : decode cX7_heads 15 = .ok (.aload_n 0, 1) := by decide +kernel
theorem dX7_heads_16 : decode cX7_heads 16 = .ok (.getfield 10, 3) := by decide +kernel
theorem dX7_heads_19 : decode cX7_heads 19 = .ok (.getfield 62, 3) := by decide +kernel
theorem dX7_heads_22 : decode cX7_heads 22 = .ok (.iload_n 1, 1) := by decide +kernel
theorem dX7_heads_23 : decode cX7_heads 23 = .ok (.aaload, 1) := by decide +kernel
theorem dX7_heads_24 : decode cX7_heads 24 = .ok (.iload_n 2, 1) := by decide +kernel
theorem dX7_heads_25 : decode cX7_heads 25 = .ok (.aload_n 0, 1) := by decide +kernel
theorem dX7_heads_26 : decode cX7_heads 26 = .ok (.getfield 10, 3) := by decide +kernel
theorem dX7_heads_29 : decode cX7_heads 29 = .ok (.getfield 116, 3) := by decide +kernel
theorem dX7_heads_32 : decode cX7_heads 32 = .ok (.invokevirtual 119, 3) := by decide +kernel
theorem dX7_heads_35 : decode cX7_heads 35 = .ok (.ireturn, 1) := by decide +kernel
theorem dX7_become_0 : decode cX7_become 0 = .ok (.aload_n 0, 1) := by decide +kernel
theorem dX7_become_1 : decode cX7_become 1 = .ok (.iload_n 1, 1) := by decide +kernel
theorem dX7_become_2 : decode cX7_become 2 = .ok (.invokevirtual 72, 3) := by decide +kernel
theorem dX7_become_5 : decode cX7_become 5 = .ok (.ifCond .eq 10, 3) := by decide +kernel
theorem dX7_become_8 : decode cX7_become 8 = .ok (.iload_n 2, 1) := by decide +kernel
theorem dX7_become_9 : decode cX7_become 9 = .ok (.invokestatic 47, 3) := by decide +kernel
theorem dX7_become_12 : decode cX7_become 12 = .ok (.ifCond .ne 9, 3) := by decide +kernel
theorem dX7_become_15 : decode cX7_become 15 = .ok (.aload_n 0, 1) := by decide +kernel
theorem dX7_become_16 : decode cX7_become 16 = .ok (.iconst 1, 1) := by decide +kernel
theorem dX7_become_17 : decode cX7_become 17 = .ok (.invokevirtual 54, 3) := by decide +kernel
theorem dX7_become_20 : decode cX7_become 20 = .ok (.ireturn, 1) := by decide +kernel
theorem dX7_become_21 : decode cX7_become 21 = .ok (.aload_n 0, 1) := by decide +kernel
theorem dX7_become_22 : decode cX7_become 22 = .ok (.getfield 10, 3) := by decide +kernel
theorem dX7_become_25 : decode cX7_become 25 = .ok (.getfield 62, 3) := by decide +kernel
theorem dX7_become_28 : decode cX7_become 28 = .ok (.iload_n 1, 1) := by decide +kernel
theorem dX7_become_29 : decode cX7_become 29 = .ok (.aaload, 1) := by decide +kernel
theorem dX7_become_30 : decode cX7_become 30 = .ok (.astore_n 3, 1) := by decide +kernel
theorem dX7_become_31 : decode cX7_become 31 = .ok (.aload_n 3, 1) := by decide +kernel
theorem dX7_become_32 : decode cX7_become 32 = .ok (.getfield 86, 3) := by decide +kernel
theorem dX7_become_35 : decode cX7_become 35 = .ok (.istore 4, 2) := by decide +kernel
theorem dX7_become_37 : decode cX7_become 37 = .ok (.aload_n 3, 1) := by decide +kernel
theorem dX7_become_38 : decode cX7_become 38 = .ok (.iload_n 2, 1) := by decide +kernel
theorem dX7_become_39 : decode cX7_become 39 = .ok (.bipush 10, 2) := by decide +kernel
theorem dX7_become_41 : decode cX7_become 41 = .ok (.idiv, 1) := by decide +kernel
theorem dX7_become_42 : decode cX7_become 42 = .ok (.putfield 86, 3) := by decide +kernel
theorem dX7_become_45 : decode cX7_become 45 = .ok (.aload_n 3, 1) := by decide +kernel
theorem dX7_become_46 : decode cX7_become 46 = .ok (.iload_n 2, 1) := by decide +kernel
theorem dX7_become_47 : decode cX7_become 47 = .ok (.bipush 10, 2) := by decide +kernel
theorem dX7_become_49 : decode cX7_become 49 = .ok (.irem, 1) := by decide +kernel
theorem dX7_become_50 : decode cX7_become 50 = .ok (.putfield 89, 3) := by decide +kernel
theorem dX7_become_53 : decode cX7_become 53 = .ok (.iload 4, 2) := by decide +kernel
theorem dX7_become_55 : decode cX7_become 55 = .ok (.ireturn, 1) := by decide +kernel
theorem dX7_as_0 : decode cX7_as 0 = .ok (.aload_n 0, 1) := by decide +kernel
theorem dX7_as_1 : decode cX7_as 1 = .ok (.iload_n 1, 1) := by decide +kernel
theorem dX7_as_2 : decode cX7_as 2 = .ok (.invokevirtual 72, 3) := by decide +kernel
theorem dX7_as_5 : decode cX7_as 5 = .ok (.ifCond .eq 13, 3) := by decide +kernel
theorem dX7_as_8 : decode cX7_as 8 = .ok (.iload_n 2, 1) := by decide +kernel
theorem dX7_as_9 : decode cX7_as 9 = .ok (.ifCond .lt 9, 3) := by decide +kernel
theorem dX7_as_12 : decode cX7_as 12 = .ok (.iload_n 2, 1) := by decide +kernel
theorem dX7_as_13 : decode cX7_as 13 = .ok (.bipush 6, 2) := by decide +kernel
theorem dX7_as_15 : decode cX7_as 15 = .ok (.if_icmp .le 9, 3) := by decide +kernel
theorem dX7_as_18 : decode cX7_as 18 = .ok (.aload_n 0, 1) := by decide +kernel
theorem dX7_as_19 : decode cX7_as 19 = .ok (.iconst 1, 1) := by decide +kernel
theorem dX7_as_20 : decode cX7_as 20 = .ok (.invokevirtual 54, 3) := by decide +kernel
theorem dX7_as_23 : decode cX7_as 23 = .ok (.ireturn, 1) := by decide +kernel
theorem dX7_as_24 : decode cX7_as 24 = .ok (.aload_n 0, 1) := by decide +kernel
theorem dX7_as_25 : decode cX7_as 25 = .ok (.getfield 10, 3) := by decide +kernel
theorem dX7_as_28 : decode cX7_as 28 = .ok (.getfield 62, 3) := by decide +kernel
theorem dX7_as_31 : decode cX7_as 31 = .ok (.iload_n 1, 1) := by decide +kernel
theorem dX7_as_32 : decode cX7_as 32 = .ok (.aaload, 1) := by decide +kernel
theorem dX7_as_33 : decode cX7_as 33 = .ok (.astore_n 3, 1) := by decide +kernel
theorem dX7_as_34 : decode cX7_as 34 = .ok (.aload_n 3, 1) := by decide +kernel
theorem dX7_as_35 : decode cX7_as 35 = .ok (.getfield 86, 3) := by decide +kernel
theorem dX7_as_38 : decode cX7_as 38 = .ok (.iload_n 2, 1) := by decide +kernel
theorem dX7_as_39 : decode cX7_as 39 = .ok (.invokestatic 123, 3) := by decide +kernel
theorem dX7_as_42 : decode cX7_as 42 = .ok (.ifCond .eq 10, 3) := by decide +kernel
theorem dX7_as_45 : decode cX7_as 45 = .ok (.aload_n 3, 1) := by decide +kernel
theorem dX7_as_46 : decode cX7_as 46 = .ok (.getfield 89, 3) := by decide +kernel
theorem dX7_as_49 : decode cX7_as 49 = .ok (.goto 8, 3) := by decide +kernel
theorem dX7_as_52 : decode cX7_as 52 = .ok (.aload_n 0, 1) := by decide +kernel
theorem dX7_as_53 : decode cX7_as 53 = .ok (.iconst 5, 1) := by decide +kernel
theorem dX7_as_54 : decode cX7_as 54 = .ok (.invokevirtual 54, 3) := by decide +kernel
theorem dX7_as_57 : decode cX7_as 57 = .ok (.ireturn, 1) := by decide +kernel
theorem dX7_turn_0 : decode cX7_turn 0 = .ok (.aload_n 0, 1) := by decide +kernel
theorem dX7_turn_1 : decode cX7_turn 1 = .ok (.iload_n 1, 1) := by decide +kernel
theorem dX7_turn_2 : decode cX7_turn 2 = .ok (.invokevirtual 72, 3) := by decide +kernel
theorem dX7_turn_5 : decode cX7_turn 5 = .ok (.ifCond .eq 10, 3) := by decide +kernel
theorem dX7_turn_8 : decode cX7_turn 8 = .ok (.iload_n 2, 1) := by decide +kernel
theorem dX7_turn_9 : decode cX7_turn 9 = .ok (.invokestatic 51, 3) := by decide +kernel
theorem dX7_turn_12 : decode cX7_turn 12 = .ok (.ifCond .ne 9, 3) := by decide +kernel
theorem dX7_turn_15 : decode cX7_turn 15 = .ok (.aload_n 0, 1) := by decide +kernel
theorem dX7_turn_16 : decode cX7_turn 16 = .ok (.iconst 1, 1) := by decide +kernel
theorem dX7_turn_17 : decode cX7_turn 17 = .ok (.invokevirtual 54, 3) := by decide +kernel
theorem dX7_turn_20 : decode cX7_turn 20 = .ok (.ireturn, 1) := by decide +kernel
theorem dX7_turn_21 : decode cX7_turn 21 = .ok (.aload_n 0, 1) := by decide +kernel
theorem dX7_turn_22 : decode cX7_turn 22 = .ok (.getfield 10, 3) := by decide +kernel
theorem dX7_turn_25 : decode cX7_turn 25 = .ok (.getfield 62, 3) := by decide +kernel
theorem dX7_turn_28 : decode cX7_turn 28 = .ok (.iload_n 1, 1) := by decide +kernel
theorem dX7_turn_29 : decode cX7_turn 29 = .ok (.aaload, 1) := by decide +kernel
theorem dX7_turn_30 : decode cX7_turn 30 = .ok (.getfield 92, 3) := by decide +kernel
theorem dX7_turn_33 : decode cX7_turn 33 = .ok (.istore_n 3, 1) := by decide +kernel
theorem dX7_turn_34 : decode cX7_turn 34 = .ok (.aload_n 0, 1) := by decide +kernel
theorem dX7_turn_35 : decode cX7_turn 35 = .ok (.getfield 10, 3) := by decide +kernel
theorem dX7_turn_38 : decode cX7_turn 38 = .ok (.getfield 62, 3) := by decide +kernel
theorem dX7_turn_41 : decode cX7_turn 41 = .ok (.iload_n 1, 1) := by decide +kernel
theorem dX7_turn_42 : decode cX7_turn 42 = .ok (.aaload, 1) := by decide +kernel
theorem dX7_turn_43 : decode cX7_turn 43 = .ok (.iload_n 2, 1) := by decide +kernel
theorem dX7_turn_44 : decode cX7_turn 44 = .ok (.putfield 92, 3) := by decide +kernel
theorem dX7_turn_47 : decode cX7_turn 47 = .ok (.iload_n 3, 1) := by decide +kernel
theorem dX7_turn_48 : decode cX7_turn 48 = .ok (.ireturn, 1) := by decide +kernel
theorem dX7_cut_0 : decode cX7_cut 0 = .ok (.aload_n 0, 1) := by decide +kernel
theorem dX7_cut_1 : decode cX7_cut 1 = .ok (.iload_n 1, 1) := by decide +kernel
theorem dX7_cut_2 : decode cX7_cut 2 = .ok (.invokevirtual 72, 3) := by decide +kernel
theorem dX7_cut_5 : decode cX7_cut 5 = .ok (.ifCond .ne 9, 3) := by decide +kernel
theorem dX7_cut_8 : decode cX7_cut 8 = .ok (.aload_n 0, 1) := by decide +kernel
theorem dX7_cut_9 : decode cX7_cut 9 = .ok (.iconst 1, 1) := by decide +kernel
theorem dX7_cut_10 : decode cX7_cut 10 = .ok (.invokevirtual 54, 3) := by decide +kernel
theorem dX7_cut_13 : decode cX7_cut 13 = .ok (.ireturn, 1) := by decide +kernel
theorem dX7_cut_14 : decode cX7_cut 14 = .ok (.aload_n 0, 1) := by decide +kernel
theorem dX7_cut_15 : decode cX7_cut 15 = .ok (.getfield 10, 3) := by decide +kernel
theorem dX7_cut_18 : decode cX7_cut 18 = .ok (.getfield 62, 3) := by decide +kernel
theorem dX7_cut_21 : decode cX7_cut 21 = .ok (.iload_n 1, 1) := by decide +kernel
theorem dX7_cut_22 : decode cX7_cut 22 = .ok (.aaload, 1) := by decide +kernel
theorem dX7_cut_23 : decode cX7_cut 23 = .ok (.astore_n 2, 1) := by decide +kernel
theorem dX7_cut_24 : decode cX7_cut 24 = .ok (.aload_n 2, 1) := by decide +kernel
theorem dX7_cut_25 : decode cX7_cut 25 = .ok (.getfield 80, 3) := by decide +kernel
theorem dX7_cut_28 : decode cX7_cut 28 = .ok (.ifCond .gt 9, 3) := by decide +kernel
theorem dX7_cut_31 : decode cX7_cut 31 = .ok (.aload_n 0, 1) := by decide +kernel
theorem dX7_cut_32 : decode cX7_cut 32 = .ok (.iconst 3, 1) := by decide +kernel
theorem dX7_cut_33 : decode cX7_cut 33 = .ok (.invokevirtual 54, 3) := by decide +kernel
theorem dX7_cut_36 : decode cX7_cut 36 = .ok (.ireturn, 1) := by decide +kernel
theorem dX7_cut_37 : decode cX7_cut 37 = .ok (.aload_n 2, 1) := by decide +kernel
theorem dX7_cut_38 : decode cX7_cut 38 = .ok (.dup, 1) := by decide +kernel
theorem dX7_cut_39 : decode cX7_cut 39 = .ok (.getfield 80, 3) := by decide +kernel
theorem dX7_cut_42 : decode cX7_cut 42 = .ok (.iconst 1, 1) := by decide +kernel
theorem dX7_cut_43 : decode cX7_cut 43 = .ok (.isub, 1) := by decide +kernel
theorem dX7_cut_44 : decode cX7_cut 44 = .ok (.putfield 80, 3) := by decide +kernel
theorem dX7_cut_47 : decode cX7_cut 47 = .ok (.aload_n 2, 1) := by decide +kernel
theorem dX7_cut_48 : decode cX7_cut 48 = .ok (.getfield 80, 3) := by decide +kernel
theorem dX7_cut_51 : decode cX7_cut 51 = .ok (.ireturn, 1) := by decide +kernel
theorem dX7_lay_0 : decode cX7_lay 0 = .ok (.iload_n 1, 1) := by decide +kernel
theorem dX7_lay_1 : decode cX7_lay 1 = .ok (.ifCond .lt 24, 3) := by decide +kernel
theorem dX7_lay_4 : decode cX7_lay 4 = .ok (.iload_n 1, 1) := by decide +kernel
theorem dX7_lay_5 : decode cX7_lay 5 = .ok (.iconst 1, 1) := by decide +kernel
theorem dX7_lay_6 : decode cX7_lay 6 = .ok (.if_icmp .gt 19, 3) := by decide +kernel
theorem dX7_lay_9 : decode cX7_lay 9 = .ok (.iload_n 2, 1) := by decide +kernel
theorem dX7_lay_10 : decode cX7_lay 10 = .ok (.invokestatic 75, 3) := by decide +kernel
theorem dX7_lay_13 : decode cX7_lay 13 = .ok (.ifCond .eq 12, 3) := by decide +kernel
theorem dX7_lay_16 : decode cX7_lay 16 = .ok (.iload_n 3, 1) := by decide +kernel
theorem dX7_lay_17 : decode cX7_lay 17 = .ok (.ifCond .lt 8, 3) := by decide +kernel
theorem dX7_lay_20 : decode cX7_lay 20 = .ok (.iload_n 3, 1) := by decide +kernel
theorem dX7_lay_21 : decode cX7_lay 21 = .ok (.iconst 1, 1) := by decide +kernel
theorem dX7_lay_22 : decode cX7_lay 22 = .ok (.if_icmp .le 9, 3) := by decide +kernel
theorem dX7_lay_25 : decode cX7_lay 25 = .ok (.aload_n 0, 1) := by decide +kernel
theorem dX7_lay_26 : decode cX7_lay 26 = .ok (.iconst 1, 1) := by decide +kernel
theorem dX7_lay_27 : decode cX7_lay 27 = .ok (.invokevirtual 54, 3) := by decide +kernel
theorem dX7_lay_30 : decode cX7_lay 30 = .ok (.ireturn, 1) := by decide +kernel
theorem dX7_lay_31 : decode cX7_lay 31 = .ok (.iload_n 1, 1) := by decide +kernel
theorem dX7_lay_32 : decode cX7_lay 32 = .ok (.ifCond .ne 13, 3) := by decide +kernel
theorem dX7_lay_35 : decode cX7_lay 35 = .ok (.aload_n 0, 1) := by decide +kernel
theorem dX7_lay_36 : decode cX7_lay 36 = .ok (.getfield 10, 3) := by decide +kernel
theorem dX7_lay_39 : decode cX7_lay 39 = .ok (.getfield 126, 3) := by decide +kernel
theorem dX7_lay_42 : decode cX7_lay 42 = .ok (.goto 10, 3) := by decide +kernel
theorem dX7_lay_45 : decode cX7_lay 45 = .ok (.aload_n 0, 1) := by decide +kernel
theorem dX7_lay_46 : decode cX7_lay 46 = .ok (.getfield 10, 3) := by decide +kernel
theorem dX7_lay_49 : decode cX7_lay 49 = .ok (.getfield 130, 3) := by decide +kernel
theorem dX7_lay_52 : decode cX7_lay 52 = .ok (.lstore 4, 2) := by decide +kernel
theorem dX7_lay_54 : decode cX7_lay 54 = .ok (.iload_n 3, 1) := by decide +kernel
theorem dX7_lay_55 : decode cX7_lay 55 = .ok (.iconst 1, 1) := by decide +kernel
theorem dX7_lay_56 : decode cX7_lay 56 = .ok (.if_icmp .ne 13, 3) := by decide +kernel
theorem dX7_lay_59 : decode cX7_lay 59 = .ok (.lload 4, 2) := by decide +kernel
theorem dX7_lay_61 : decode cX7_lay 61 = .ok (.iload_n 2, 1) := by decide +kernel
theorem dX7_lay_62 : decode cX7_lay 62 = .ok (.invokestatic 133, 3) := by decide +kernel
theorem dX7_lay_65 : decode cX7_lay 65 = .ok (.lor, 1) := by decide +kernel
theorem dX7_lay_66 : decode cX7_lay 66 = .ok (.goto 14, 3) := by decide +kernel
theorem dX7_lay_69 : decode cX7_lay 69 = .ok (.lload 4, 2) := by decide +kernel
theorem dX7_lay_71 : decode cX7_lay 71 = .ok (.iload_n 2, 1) := by decide +kernel
theorem dX7_lay_72 : decode cX7_lay 72 = .ok (.invokestatic 133, 3) := by decide +kernel
theorem dX7_lay_75 : decode cX7_lay 75 = .ok (.ldc2_w 137, 3) := by decide +kernel
theorem dX7_lay_78 : decode cX7_lay 78 = .ok (.lxor, 1) := by decide +kernel
theorem dX7_lay_79 : decode cX7_lay 79 = .ok (.land, 1) := by decide +kernel
theorem dX7_lay_80 : decode cX7_lay 80 = .ok (.lstore 6, 2) := by decide +kernel
theorem dX7_lay_82 : decode cX7_lay 82 = .ok (.iload_n 1, 1) := by decide +kernel
theorem dX7_lay_83 : decode cX7_lay 83 = .ok (.ifCond .ne 15, 3) := by decide +kernel
theorem dX7_lay_86 : decode cX7_lay 86 = .ok (.aload_n 0, 1) := by decide +kernel
theorem dX7_lay_87 : decode cX7_lay 87 = .ok (.getfield 10, 3) := by decide +kernel
theorem dX7_lay_90 : decode cX7_lay 90 = .ok (.lload 6, 2) := by decide +kernel
theorem dX7_lay_92 : decode cX7_lay 92 = .ok (.putfield 126, 3) := by decide +kernel
theorem dX7_lay_95 : decode cX7_lay 95 = .ok (.goto 12, 3) := by decide +kernel
theorem dX7_lay_98 : decode cX7_lay 98 = .ok (.aload_n 0, 1) := by decide +kernel
theorem dX7_lay_99 : decode cX7_lay 99 = .ok (.getfield 10, 3) := by decide +kernel
theorem dX7_lay_102 : decode cX7_lay 102 = .ok (.lload 6, 2) := by decide +kernel
theorem dX7_lay_104 : decode cX7_lay 104 = .ok (.putfield 130, 3) := by decide +kernel
theorem dX7_lay_107 : decode cX7_lay 107 = .ok (.lload 4, 2) := by decide +kernel
theorem dX7_lay_109 : decode cX7_lay 109 = .ok (.iload_n 2, 1) := by decide +kernel
theorem dX7_lay_110 : decode cX7_lay 110 = .ok (.invokestatic 139, 3) := by decide +kernel
theorem dX7_lay_113 : decode cX7_lay 113 = .ok (.ifCond .eq 7, 3) := by decide +kernel
theorem dX7_lay_116 : decode cX7_lay 116 = .ok (.iconst 1, 1) := by decide +kernel
theorem dX7_lay_117 : decode cX7_lay 117 = .ok (.goto 4, 3) := by decide +kernel
theorem dX7_lay_120 : decode cX7_lay 120 = .ok (.iconst 0, 1) := by decide +kernel
theorem dX7_lay_121 : decode cX7_lay 121 = .ok (.ireturn, 1) := by decide +kernel
theorem dX7_cow_0 : decode cX7_cow 0 = .ok (.iload_n 1, 1) := by decide +kernel
theorem dX7_cow_1 : decode cX7_cow 1 = .ok (.invokestatic 75, 3) := by decide +kernel
theorem dX7_cow_4 : decode cX7_cow 4 = .ok (.ifCond .ne 9, 3) := by decide +kernel
theorem dX7_cow_7 : decode cX7_cow 7 = .ok (.aload_n 0, 1) := by decide +kernel
theorem dX7_cow_8 : decode cX7_cow 8 = .ok (.iconst 1, 1) := by decide +kernel
theorem dX7_cow_9 : decode cX7_cow 9 = .ok (.invokevirtual 54, 3) := by decide +kernel
theorem dX7_cow_12 : decode cX7_cow 12 = .ok (.ireturn, 1) := by decide +kernel
theorem dX7_cow_13 : decode cX7_cow 13 = .ok (.aload_n 0, 1) := by decide +kernel
theorem dX7_cow_14 : decode cX7_cow 14 = .ok (.getfield 10, 3) := by decide +kernel
theorem dX7_cow_17 : decode cX7_cow 17 = .ok (.getfield 143, 3) := by decide +kernel
theorem dX7_cow_20 : decode cX7_cow 20 = .ok (.bipush 6, 2) := by decide +kernel
theorem dX7_cow_22 : decode cX7_cow 22 = .ok (.if_icmp .lt 9, 3) := by decide +kernel
theorem dX7_cow_25 : decode cX7_cow 25 = .ok (.aload_n 0, 1) := by decide +kernel
theorem dX7_cow_26 : decode cX7_cow 26 = .ok (.iconst 4, 1) := by decide +kernel
theorem dX7_cow_27 : decode cX7_cow 27 = .ok (.invokevirtual 54, 3) := by decide +kernel
theorem dX7_cow_30 : decode cX7_cow 30 = .ok (.ireturn, 1) := by decide +kernel
theorem dX7_cow_31 : decode cX7_cow 31 = .ok (.aload_n 0, 1) := by decide +kernel
theorem dX7_cow_32 : decode cX7_cow 32 = .ok (.getfield 10, 3) := by decide +kernel
theorem dX7_cow_35 : decode cX7_cow 35 = .ok (.getfield 146, 3) := by decide +kernel
theorem dX7_cow_38 : decode cX7_cow 38 = .ok (.aload_n 0, 1) := by decide +kernel
theorem dX7_cow_39 : decode cX7_cow 39 = .ok (.getfield 10, 3) := by decide +kernel
theorem dX7_cow_42 : decode cX7_cow 42 = .ok (.getfield 143, 3) := by decide +kernel
theorem dX7_cow_45 : decode cX7_cow 45 = .ok (.iload_n 1, 1) := by decide +kernel
theorem dX7_cow_46 : decode cX7_cow 46 = .ok (.iastore, 1) := by decide +kernel
theorem dX7_cow_47 : decode cX7_cow 47 = .ok (.aload_n 0, 1) := by decide +kernel
theorem dX7_cow_48 : decode cX7_cow 48 = .ok (.getfield 10, 3) := by decide +kernel
theorem dX7_cow_51 : decode cX7_cow 51 = .ok (.getfield 149, 3) := by decide +kernel
theorem dX7_cow_54 : decode cX7_cow 54 = .ok (.aload_n 0, 1) := by decide +kernel
theorem dX7_cow_55 : decode cX7_cow 55 = .ok (.getfield 10, 3) := by decide +kernel
theorem dX7_cow_58 : decode cX7_cow 58 = .ok (.getfield 143, 3) := by decide +kernel
theorem dX7_cow_61 : decode cX7_cow 61 = .ok (.iconst 0, 1) := by decide +kernel
theorem dX7_cow_62 : decode cX7_cow 62 = .ok (.iastore, 1) := by decide +kernel
theorem dX7_cow_63 : decode cX7_cow 63 = .ok (.aload_n 0, 1) := by decide +kernel
theorem dX7_cow_64 : decode cX7_cow 64 = .ok (.getfield 10, 3) := by decide +kernel
theorem dX7_cow_67 : decode cX7_cow 67 = .ok (.dup, 1) := by decide +kernel
theorem dX7_cow_68 : decode cX7_cow 68 = .ok (.getfield 143, 3) := by decide +kernel
theorem dX7_cow_71 : decode cX7_cow 71 = .ok (.iconst 1, 1) := by decide +kernel
theorem dX7_cow_72 : decode cX7_cow 72 = .ok (.iadd, 1) := by decide +kernel
theorem dX7_cow_73 : decode cX7_cow 73 = .ok (.putfield 143, 3) := by decide +kernel
theorem dX7_cow_76 : decode cX7_cow 76 = .ok (.aload_n 0, 1) := by decide +kernel
theorem dX7_cow_77 : decode cX7_cow 77 = .ok (.getfield 10, 3) := by decide +kernel
theorem dX7_cow_80 : decode cX7_cow 80 = .ok (.getfield 143, 3) := by decide +kernel
theorem dX7_cow_83 : decode cX7_cow 83 = .ok (.iconst 1, 1) := by decide +kernel
theorem dX7_cow_84 : decode cX7_cow 84 = .ok (.isub, 1) := by decide +kernel
theorem dX7_cow_85 : decode cX7_cow 85 = .ok (.ireturn, 1) := by decide +kernel
theorem dX7_cowIs_0 : decode cX7_cowIs 0 = .ok (.aload_n 0, 1) := by decide +kernel
theorem dX7_cowIs_1 : decode cX7_cowIs 1 = .ok (.iload_n 1, 1) := by decide +kernel
theorem dX7_cowIs_2 : decode cX7_cowIs 2 = .ok (.invokevirtual 152, 3) := by decide +kernel
theorem dX7_cowIs_5 : decode cX7_cowIs 5 = .ok (.ifCond .ne 9, 3) := by decide +kernel
theorem dX7_cowIs_8 : decode cX7_cowIs 8 = .ok (.aload_n 0, 1) := by decide +kernel
theorem dX7_cowIs_9 : decode cX7_cowIs 9 = .ok (.iconst 1, 1) := by decide +kernel
theorem dX7_cowIs_10 : decode cX7_cowIs 10 = .ok (.invokevirtual 54, 3) := by decide +kernel
theorem dX7_cowIs_13 : decode cX7_cowIs 13 = .ok (.ireturn, 1) := by decide +kernel
theorem dX7_cowIs_14 : decode cX7_cowIs 14 = .ok (.iload_n 2, 1) := by decide +kernel
theorem dX7_cowIs_15 : decode cX7_cowIs 15 = .ok (.tableswitch 69 0 2 #[25, 35, 45], 25) := by decide +kernel
theorem dX7_cowIs_40 : decode cX7_cowIs 40 = .ok (.aload_n 0, 1) := by decide +kernel
theorem dX7_cowIs_41 : decode cX7_cowIs 41 = .ok (.getfield 10, 3) := by decide +kernel
theorem dX7_cowIs_44 : decode cX7_cowIs 44 = .ok (.getfield 146, 3) := by decide +kernel
theorem dX7_cowIs_47 : decode cX7_cowIs 47 = .ok (.iload_n 1, 1) := by decide +kernel
theorem dX7_cowIs_48 : decode cX7_cowIs 48 = .ok (.iaload, 1) := by decide +kernel
theorem dX7_cowIs_49 : decode cX7_cowIs 49 = .ok (.ireturn, 1) := by decide +kernel
theorem dX7_cowIs_50 : decode cX7_cowIs 50 = .ok (.aload_n 0, 1) := by decide +kernel
theorem dX7_cowIs_51 : decode cX7_cowIs 51 = .ok (.getfield 10, 3) := by decide +kernel
theorem dX7_cowIs_54 : decode cX7_cowIs 54 = .ok (.getfield 149, 3) := by decide +kernel
theorem dX7_cowIs_57 : decode cX7_cowIs 57 = .ok (.iload_n 1, 1) := by decide +kernel
theorem dX7_cowIs_58 : decode cX7_cowIs 58 = .ok (.iaload, 1) := by decide +kernel
theorem dX7_cowIs_59 : decode cX7_cowIs 59 = .ok (.ireturn, 1) := by decide +kernel
theorem dX7_cowIs_60 : decode cX7_cowIs 60 = .ok (.aload_n 0, 1) := by decide +kernel
theorem dX7_cowIs_61 : decode cX7_cowIs 61 = .ok (.getfield 10, 3) := by decide +kernel
theorem dX7_cowIs_64 : decode cX7_cowIs 64 = .ok (.invokevirtual 155, 3) := by decide +kernel
theorem dX7_cowIs_67 : decode cX7_cowIs 67 = .ok (.aload_n 0, 1) := by decide +kernel
theorem dX7_cowIs_68 : decode cX7_cowIs 68 = .ok (.getfield 10, 3) := by decide +kernel
theorem dX7_cowIs_71 : decode cX7_cowIs 71 = .ok (.aload_n 0, 1) := by decide +kernel
theorem dX7_cowIs_72 : decode cX7_cowIs 72 = .ok (.getfield 10, 3) := by decide +kernel
theorem dX7_cowIs_75 : decode cX7_cowIs 75 = .ok (.getfield 146, 3) := by decide +kernel
theorem dX7_cowIs_78 : decode cX7_cowIs 78 = .ok (.iload_n 1, 1) := by decide +kernel
theorem dX7_cowIs_79 : decode cX7_cowIs 79 = .ok (.iaload, 1) := by decide +kernel
theorem dX7_cowIs_80 : decode cX7_cowIs 80 = .ok (.invokevirtual 158, 3) := by decide +kernel
theorem dX7_cowIs_83 : decode cX7_cowIs 83 = .ok (.ireturn, 1) := by decide +kernel
theorem dX7_cowIs_84 : decode cX7_cowIs 84 = .ok (.aload_n 0, 1) := by decide +kernel
theorem dX7_cowIs_85 : decode cX7_cowIs 85 = .ok (.iconst 1, 1) := by decide +kernel
theorem dX7_cowIs_86 : decode cX7_cowIs 86 = .ok (.invokevirtual 54, 3) := by decide +kernel
theorem dX7_cowIs_89 : decode cX7_cowIs 89 = .ok (.ireturn, 1) := by decide +kernel
theorem dX7_drive_0 : decode cX7_drive 0 = .ok (.aload_n 0, 1) := by decide +kernel
theorem dX7_drive_1 : decode cX7_drive 1 = .ok (.iload_n 1, 1) := by decide +kernel
theorem dX7_drive_2 : decode cX7_drive 2 = .ok (.invokevirtual 152, 3) := by decide +kernel
theorem dX7_drive_5 : decode cX7_drive 5 = .ok (.ifCond .eq 10, 3) := by decide +kernel
theorem dX7_drive_8 : decode cX7_drive 8 = .ok (.iload_n 2, 1) := by decide +kernel
theorem dX7_drive_9 : decode cX7_drive 9 = .ok (.invokestatic 75, 3) := by decide +kernel
theorem dX7_drive_12 : decode cX7_drive 12 = .ok (.ifCond .ne 9, 3) := by decide +kernel
theorem dX7_drive_15 : decode cX7_drive 15 = .ok (.aload_n 0, 1) := by decide +kernel
theorem dX7_drive_16 : decode cX7_drive 16 = .ok (.iconst 1, 1) := by decide +kernel
theorem dX7_drive_17 : decode cX7_drive 17 = .ok (.invokevirtual 54, 3) := by decide +kernel
theorem dX7_drive_20 : decode cX7_drive 20 = .ok (.ireturn, 1) := by decide +kernel
theorem dX7_drive_21 : decode cX7_drive 21 = .ok (.aload_n 0, 1) := by decide +kernel
theorem dX7_drive_22 : decode cX7_drive 22 = .ok (.getfield 10, 3) := by decide +kernel
theorem dX7_drive_25 : decode cX7_drive 25 = .ok (.getfield 146, 3) := by decide +kernel
theorem dX7_drive_28 : decode cX7_drive 28 = .ok (.iload_n 1, 1) := by decide +kernel
theorem dX7_drive_29 : decode cX7_drive 29 = .ok (.iaload, 1) := by decide +kernel
theorem dX7_drive_30 : decode cX7_drive 30 = .ok (.istore_n 3, 1) := by decide +kernel
theorem dX7_drive_31 : decode cX7_drive 31 = .ok (.aload_n 0, 1) := by decide +kernel
theorem dX7_drive_32 : decode cX7_drive 32 = .ok (.getfield 10, 3) := by decide +kernel
theorem dX7_drive_35 : decode cX7_drive 35 = .ok (.getfield 146, 3) := by decide +kernel
theorem dX7_drive_38 : decode cX7_drive 38 = .ok (.iload_n 1, 1) := by decide +kernel
theorem dX7_drive_39 : decode cX7_drive 39 = .ok (.iload_n 2, 1) := by decide +kernel
theorem dX7_drive_40 : decode cX7_drive 40 = .ok (.iastore, 1) := by decide +kernel
theorem dX7_drive_41 : decode cX7_drive 41 = .ok (.iload_n 3, 1) := by decide +kernel
theorem dX7_drive_42 : decode cX7_drive 42 = .ok (.ireturn, 1) := by decide +kernel
theorem dX7_feed_0 : decode cX7_feed 0 = .ok (.iload_n 3, 1) := by decide +kernel
theorem dX7_feed_1 : decode cX7_feed 1 = .ok (.iconst 1, 1) := by decide +kernel
theorem dX7_feed_2 : decode cX7_feed 2 = .ok (.if_icmp .lt 9, 3) := by decide +kernel
theorem dX7_feed_5 : decode cX7_feed 5 = .ok (.iload_n 3, 1) := by decide +kernel
theorem dX7_feed_6 : decode cX7_feed 6 = .ok (.bipush 8, 2) := by decide +kernel
theorem dX7_feed_8 : decode cX7_feed 8 = .ok (.if_icmp .le 9, 3) := by decide +kernel
theorem dX7_feed_11 : decode cX7_feed 11 = .ok (.aload_n 0, 1) := by decide +kernel
theorem dX7_feed_12 : decode cX7_feed 12 = .ok (.iconst 1, 1) := by decide +kernel
theorem dX7_feed_13 : decode cX7_feed 13 = .ok (.invokevirtual 54, 3) := by decide +kernel
theorem dX7_feed_16 : decode cX7_feed 16 = .ok (.ireturn, 1) := by decide +kernel
theorem dX7_feed_17 : decode cX7_feed 17 = .ok (.aload_n 0, 1) := by decide +kernel
theorem dX7_feed_18 : decode cX7_feed 18 = .ok (.getfield 10, 3) := by decide +kernel
theorem dX7_feed_21 : decode cX7_feed 21 = .ok (.getfield 161, 3) := by decide +kernel
theorem dX7_feed_24 : decode cX7_feed 24 = .ok (.iload_n 3, 1) := by decide +kernel
theorem dX7_feed_25 : decode cX7_feed 25 = .ok (.iadd, 1) := by decide +kernel
theorem dX7_feed_26 : decode cX7_feed 26 = .ok (.bipush 60, 2) := by decide +kernel
theorem dX7_feed_28 : decode cX7_feed 28 = .ok (.if_icmp .le 9, 3) := by decide +kernel
theorem dX7_feed_31 : decode cX7_feed 31 = .ok (.aload_n 0, 1) := by decide +kernel
theorem dX7_feed_32 : decode cX7_feed 32 = .ok (.iconst 4, 1) := by decide +kernel
theorem dX7_feed_33 : decode cX7_feed 33 = .ok (.invokevirtual 54, 3) := by decide +kernel
theorem dX7_feed_36 : decode cX7_feed 36 = .ok (.ireturn, 1) := by decide +kernel
theorem dX7_feed_37 : decode cX7_feed 37 = .ok (.iconst 0, 1) := by decide +kernel
theorem dX7_feed_38 : decode cX7_feed 38 = .ok (.istore 4, 2) := by decide +kernel
theorem dX7_feed_40 : decode cX7_feed 40 = .ok (.iload 4, 2) := by decide +kernel
theorem dX7_feed_42 : decode cX7_feed 42 = .ok (.iload_n 3, 1) := by decide +kernel
theorem dX7_feed_43 : decode cX7_feed 43 = .ok (.if_icmp .ge 46, 3) := by decide +kernel
theorem dX7_feed_46 : decode cX7_feed 46 = .ok (.aload_n 0, 1) := by decide +kernel
theorem dX7_feed_47 : decode cX7_feed 47 = .ok (.getfield 10, 3) := by decide +kernel
theorem dX7_feed_50 : decode cX7_feed 50 = .ok (.getfield 164, 3) := by decide +kernel
theorem dX7_feed_53 : decode cX7_feed 53 = .ok (.aload_n 0, 1) := by decide +kernel
theorem dX7_feed_54 : decode cX7_feed 54 = .ok (.getfield 10, 3) := by decide +kernel
theorem dX7_feed_57 : decode cX7_feed 57 = .ok (.getfield 161, 3) := by decide +kernel
theorem dX7_feed_60 : decode cX7_feed 60 = .ok (.lload_n 1, 1) := by decide +kernel
theorem dX7_feed_61 : decode cX7_feed 61 = .ok (.bipush 8, 2) := by decide +kernel
theorem dX7_feed_63 : decode cX7_feed 63 = .ok (.iload 4, 2) := by decide +kernel
theorem dX7_feed_65 : decode cX7_feed 65 = .ok (.imul, 1) := by decide +kernel
theorem dX7_feed_66 : decode cX7_feed 66 = .ok (.lushr, 1) := by decide +kernel
theorem dX7_feed_67 : decode cX7_feed 67 = .ok (.l2i, 1) := by decide +kernel
theorem dX7_feed_68 : decode cX7_feed 68 = .ok (.i2b, 1) := by decide +kernel
theorem dX7_feed_69 : decode cX7_feed 69 = .ok (.bastore, 1) := by decide +kernel
theorem dX7_feed_70 : decode cX7_feed 70 = .ok (.aload_n 0, 1) := by decide +kernel
theorem dX7_feed_71 : decode cX7_feed 71 = .ok (.getfield 10, 3) := by decide +kernel
theorem dX7_feed_74 : decode cX7_feed 74 = .ok (.dup, 1) := by decide +kernel
theorem dX7_feed_75 : decode cX7_feed 75 = .ok (.getfield 161, 3) := by decide +kernel
theorem dX7_feed_78 : decode cX7_feed 78 = .ok (.iconst 1, 1) := by decide +kernel
theorem dX7_feed_79 : decode cX7_feed 79 = .ok (.iadd, 1) := by decide +kernel
theorem dX7_feed_80 : decode cX7_feed 80 = .ok (.putfield 161, 3) := by decide +kernel
theorem dX7_feed_83 : decode cX7_feed 83 = .ok (.iinc 4 1, 3) := by decide +kernel
theorem dX7_feed_86 : decode cX7_feed 86 = .ok (.goto (-46), 3) := by decide +kernel
theorem dX7_feed_89 : decode cX7_feed 89 = .ok (.aload_n 0, 1) := by decide +kernel
theorem dX7_feed_90 : decode cX7_feed 90 = .ok (.getfield 10, 3) := by decide +kernel
theorem dX7_feed_93 : decode cX7_feed 93 = .ok (.getfield 161, 3) := by decide +kernel
theorem dX7_feed_96 : decode cX7_feed 96 = .ok (.ireturn, 1) := by decide +kernel
theorem dX7_text_0 : decode cX7_text 0 = .ok (.iload_n 1, 1) := by decide +kernel
theorem dX7_text_1 : decode cX7_text 1 = .ok (.invokestatic 168, 3) := by decide +kernel
theorem dX7_text_4 : decode cX7_text 4 = .ok (.ifCond .ne 9, 3) := by decide +kernel
theorem dX7_text_7 : decode cX7_text 7 = .ok (.aload_n 0, 1) := by decide +kernel
theorem dX7_text_8 : decode cX7_text 8 = .ok (.iconst 1, 1) := by decide +kernel
theorem dX7_text_9 : decode cX7_text 9 = .ok (.invokevirtual 54, 3) := by decide +kernel
theorem dX7_text_12 : decode cX7_text 12 = .ok (.ireturn, 1) := by decide +kernel
theorem dX7_text_13 : decode cX7_text 13 = .ok (.aload_n 0, 1) := by decide +kernel
theorem dX7_text_14 : decode cX7_text 14 = .ok (.getfield 25, 3) := by decide +kernel
theorem dX7_text_17 : decode cX7_text 17 = .ok (.aload_n 0, 1) := by decide +kernel
theorem dX7_text_18 : decode cX7_text 18 = .ok (.getfield 10, 3) := by decide +kernel
theorem dX7_text_21 : decode cX7_text 21 = .ok (.getfield 164, 3) := by decide +kernel
theorem dX7_text_24 : decode cX7_text 24 = .ok (.aload_n 0, 1) := by decide +kernel
theorem dX7_text_25 : decode cX7_text 25 = .ok (.getfield 10, 3) := by decide +kernel
theorem dX7_text_28 : decode cX7_text 28 = .ok (.getfield 161, 3) := by decide +kernel
theorem dX7_text_31 : decode cX7_text 31 = .ok (.iload_n 1, 1) := by decide +kernel
theorem dX7_text_32 : decode cX7_text 32 = .ok (.invokestatic 171, 3) := by decide +kernel
theorem dX7_text_35 : decode cX7_text 35 = .ok (.invokevirtual 177, 3) := by decide +kernel
theorem dX7_text_38 : decode cX7_text 38 = .ok (.istore_n 2, 1) := by decide +kernel
theorem dX7_text_39 : decode cX7_text 39 = .ok (.aload_n 0, 1) := by decide +kernel
theorem dX7_text_40 : decode cX7_text 40 = .ok (.getfield 10, 3) := by decide +kernel
theorem dX7_text_43 : decode cX7_text 43 = .ok (.iconst 0, 1) := by decide +kernel
theorem dX7_text_44 : decode cX7_text 44 = .ok (.putfield 161, 3) := by decide +kernel
theorem dX7_text_47 : decode cX7_text 47 = .ok (.iload_n 2, 1) := by decide +kernel
theorem dX7_text_48 : decode cX7_text 48 = .ok (.ifCond .lt 8, 3) := by decide +kernel
theorem dX7_text_51 : decode cX7_text 51 = .ok (.bipush (-10), 2) := by decide +kernel
theorem dX7_text_53 : decode cX7_text 53 = .ok (.iload_n 2, 1) := by decide +kernel
theorem dX7_text_54 : decode cX7_text 54 = .ok (.isub, 1) := by decide +kernel
theorem dX7_text_55 : decode cX7_text 55 = .ok (.ireturn, 1) := by decide +kernel
theorem dX7_text_56 : decode cX7_text 56 = .ok (.aload_n 0, 1) := by decide +kernel
theorem dX7_text_57 : decode cX7_text 57 = .ok (.getfield 10, 3) := by decide +kernel
theorem dX7_text_60 : decode cX7_text 60 = .ok (.getfield 181, 3) := by decide +kernel
theorem dX7_text_63 : decode cX7_text 63 = .ok (.iload_n 1, 1) := by decide +kernel
theorem dX7_text_64 : decode cX7_text 64 = .ok (.aaload, 1) := by decide +kernel
theorem dX7_text_65 : decode cX7_text 65 = .ok (.aload_n 0, 1) := by decide +kernel
theorem dX7_text_66 : decode cX7_text 66 = .ok (.getfield 25, 3) := by decide +kernel
theorem dX7_text_69 : decode cX7_text 69 = .ok (.getfield 185, 3) := by decide +kernel
theorem dX7_text_72 : decode cX7_text 72 = .ok (.aload_n 0, 1) := by decide +kernel
theorem dX7_text_73 : decode cX7_text 73 = .ok (.getfield 25, 3) := by decide +kernel
theorem dX7_text_76 : decode cX7_text 76 = .ok (.getfield 188, 3) := by decide +kernel
theorem dX7_text_79 : decode cX7_text 79 = .ok (.invokevirtual 191, 3) := by decide +kernel
theorem dX7_text_82 : decode cX7_text 82 = .ok (.iconst 1, 1) := by decide +kernel
theorem dX7_text_83 : decode cX7_text 83 = .ok (.ireturn, 1) := by decide +kernel
theorem dX7_untell_0 : decode cX7_untell 0 = .ok (.iload_n 1, 1) := by decide +kernel
theorem dX7_untell_1 : decode cX7_untell 1 = .ok (.invokestatic 168, 3) := by decide +kernel
theorem dX7_untell_4 : decode cX7_untell 4 = .ok (.ifCond .ne 9, 3) := by decide +kernel
theorem dX7_untell_7 : decode cX7_untell 7 = .ok (.aload_n 0, 1) := by decide +kernel
theorem dX7_untell_8 : decode cX7_untell 8 = .ok (.iconst 1, 1) := by decide +kernel
theorem dX7_untell_9 : decode cX7_untell 9 = .ok (.invokevirtual 54, 3) := by decide +kernel
theorem dX7_untell_12 : decode cX7_untell 12 = .ok (.ireturn, 1) := by decide +kernel
theorem dX7_untell_13 : decode cX7_untell 13 = .ok (.aload_n 0, 1) := by decide +kernel
theorem dX7_untell_14 : decode cX7_untell 14 = .ok (.getfield 10, 3) := by decide +kernel
theorem dX7_untell_17 : decode cX7_untell 17 = .ok (.getfield 181, 3) := by decide +kernel
theorem dX7_untell_20 : decode cX7_untell 20 = .ok (.iload_n 1, 1) := by decide +kernel
theorem dX7_untell_21 : decode cX7_untell 21 = .ok (.aaload, 1) := by decide +kernel
theorem dX7_untell_22 : decode cX7_untell 22 = .ok (.getfield 195, 3) := by decide +kernel
theorem dX7_untell_25 : decode cX7_untell 25 = .ok (.ifCond .le 7, 3) := by decide +kernel
theorem dX7_untell_28 : decode cX7_untell 28 = .ok (.iconst 1, 1) := by decide +kernel
theorem dX7_untell_29 : decode cX7_untell 29 = .ok (.goto 4, 3) := by decide +kernel
theorem dX7_untell_32 : decode cX7_untell 32 = .ok (.iconst 0, 1) := by decide +kernel
theorem dX7_untell_33 : decode cX7_untell 33 = .ok (.istore_n 2, 1) := by decide +kernel
theorem dX7_untell_34 : decode cX7_untell 34 = .ok (.aload_n 0, 1) := by decide +kernel
theorem dX7_untell_35 : decode cX7_untell 35 = .ok (.getfield 10, 3) := by decide +kernel
theorem dX7_untell_38 : decode cX7_untell 38 = .ok (.getfield 181, 3) := by decide +kernel
theorem dX7_untell_41 : decode cX7_untell 41 = .ok (.iload_n 1, 1) := by decide +kernel
theorem dX7_untell_42 : decode cX7_untell 42 = .ok (.aaload, 1) := by decide +kernel
theorem dX7_untell_43 : decode cX7_untell 43 = .ok (.iconst 0, 1) := by decide +kernel
theorem dX7_untell_44 : decode cX7_untell 44 = .ok (.putfield 195, 3) := by decide +kernel
theorem dX7_untell_47 : decode cX7_untell 47 = .ok (.iload_n 2, 1) := by decide +kernel
theorem dX7_untell_48 : decode cX7_untell 48 = .ok (.ireturn, 1) := by decide +kernel
theorem dX7_law_0 : decode cX7_law 0 = .ok (.iload_n 1, 1) := by decide +kernel
theorem dX7_law_1 : decode cX7_law 1 = .ok (.invokestatic 168, 3) := by decide +kernel
theorem dX7_law_4 : decode cX7_law 4 = .ok (.ifCond .ne 9, 3) := by decide +kernel
theorem dX7_law_7 : decode cX7_law 7 = .ok (.aload_n 0, 1) := by decide +kernel
theorem dX7_law_8 : decode cX7_law 8 = .ok (.iconst 1, 1) := by decide +kernel
theorem dX7_law_9 : decode cX7_law 9 = .ok (.invokevirtual 54, 3) := by decide +kernel
theorem dX7_law_12 : decode cX7_law 12 = .ok (.ireturn, 1) := by decide +kernel
theorem dX7_law_13 : decode cX7_law 13 = .ok (.aload_n 0, 1) := by decide +kernel
theorem dX7_law_14 : decode cX7_law 14 = .ok (.getfield 10, 3) := by decide +kernel
theorem dX7_law_17 : decode cX7_law 17 = .ok (.getfield 181, 3) := by decide +kernel
theorem dX7_law_20 : decode cX7_law 20 = .ok (.iload_n 1, 1) := by decide +kernel
theorem dX7_law_21 : decode cX7_law 21 = .ok (.aaload, 1) := by decide +kernel
theorem dX7_law_22 : decode cX7_law 22 = .ok (.iload_n 2, 1) := by decide +kernel
theorem dX7_law_23 : decode cX7_law 23 = .ok (.iload_n 3, 1) := by decide +kernel
theorem dX7_law_24 : decode cX7_law 24 = .ok (.iload 4, 2) := by decide +kernel
theorem dX7_law_26 : decode cX7_law 26 = .ok (.invokevirtual 196, 3) := by decide +kernel
theorem dX7_law_29 : decode cX7_law 29 = .ok (.ireturn, 1) := by decide +kernel
theorem dX7_dawns_0 : decode cX7_dawns 0 = .ok (.iload_n 1, 1) := by decide +kernel
theorem dX7_dawns_1 : decode cX7_dawns 1 = .ok (.iconst 1, 1) := by decide +kernel
theorem dX7_dawns_2 : decode cX7_dawns 2 = .ok (.if_icmp .lt 9, 3) := by decide +kernel
theorem dX7_dawns_5 : decode cX7_dawns 5 = .ok (.iload_n 1, 1) := by decide +kernel
theorem dX7_dawns_6 : decode cX7_dawns 6 = .ok (.bipush 60, 2) := by decide +kernel
theorem dX7_dawns_8 : decode cX7_dawns 8 = .ok (.if_icmp .le 9, 3) := by decide +kernel
theorem dX7_dawns_11 : decode cX7_dawns 11 = .ok (.aload_n 0, 1) := by decide +kernel
theorem dX7_dawns_12 : decode cX7_dawns 12 = .ok (.iconst 1, 1) := by decide +kernel
theorem dX7_dawns_13 : decode cX7_dawns 13 = .ok (.invokevirtual 54, 3) := by decide +kernel
theorem dX7_dawns_16 : decode cX7_dawns 16 = .ok (.ireturn, 1) := by decide +kernel
theorem dX7_dawns_17 : decode cX7_dawns 17 = .ok (.aload_n 0, 1) := by decide +kernel
theorem dX7_dawns_18 : decode cX7_dawns 18 = .ok (.getfield 10, 3) := by decide +kernel
theorem dX7_dawns_21 : decode cX7_dawns 21 = .ok (.getfield 116, 3) := by decide +kernel
theorem dX7_dawns_24 : decode cX7_dawns 24 = .ok (.iload_n 1, 1) := by decide +kernel
theorem dX7_dawns_25 : decode cX7_dawns 25 = .ok (.iadd, 1) := by decide +kernel
theorem dX7_dawns_26 : decode cX7_dawns 26 = .ok (.sipush 9999, 3) := by decide +kernel
theorem dX7_dawns_29 : decode cX7_dawns 29 = .ok (.if_icmp .le 9, 3) := by decide +kernel
theorem dX7_dawns_32 : decode cX7_dawns 32 = .ok (.aload_n 0, 1) := by decide +kernel
theorem dX7_dawns_33 : decode cX7_dawns 33 = .ok (.iconst 3, 1) := by decide +kernel
theorem dX7_dawns_34 : decode cX7_dawns 34 = .ok (.invokevirtual 54, 3) := by decide +kernel
theorem dX7_dawns_37 : decode cX7_dawns 37 = .ok (.ireturn, 1) := by decide +kernel
theorem dX7_dawns_38 : decode cX7_dawns 38 = .ok (.aload_n 0, 1) := by decide +kernel
theorem dX7_dawns_39 : decode cX7_dawns 39 = .ok (.getfield 10, 3) := by decide +kernel
theorem dX7_dawns_42 : decode cX7_dawns 42 = .ok (.iload_n 1, 1) := by decide +kernel
theorem dX7_dawns_43 : decode cX7_dawns 43 = .ok (.invokevirtual 200, 3) := by decide +kernel
theorem dX7_dawns_46 : decode cX7_dawns 46 = .ok (.aload_n 0, 1) := by decide +kernel
theorem dX7_dawns_47 : decode cX7_dawns 47 = .ok (.getfield 10, 3) := by decide +kernel
theorem dX7_dawns_50 : decode cX7_dawns 50 = .ok (.getfield 116, 3) := by decide +kernel
theorem dX7_dawns_53 : decode cX7_dawns 53 = .ok (.ireturn, 1) := by decide +kernel
theorem dX7_loose_0 : decode cX7_loose 0 = .ok (.iload_n 1, 1) := by decide +kernel
theorem dX7_loose_1 : decode cX7_loose 1 = .ok (.iconst 1, 1) := by decide +kernel
theorem dX7_loose_2 : decode cX7_loose 2 = .ok (.if_icmp .lt 9, 3) := by decide +kernel
theorem dX7_loose_5 : decode cX7_loose 5 = .ok (.iload_n 1, 1) := by decide +kernel
theorem dX7_loose_6 : decode cX7_loose 6 = .ok (.bipush 20, 2) := by decide +kernel
theorem dX7_loose_8 : decode cX7_loose 8 = .ok (.if_icmp .le 9, 3) := by decide +kernel
theorem dX7_loose_11 : decode cX7_loose 11 = .ok (.aload_n 0, 1) := by decide +kernel
theorem dX7_loose_12 : decode cX7_loose 12 = .ok (.iconst 1, 1) := by decide +kernel
theorem dX7_loose_13 : decode cX7_loose 13 = .ok (.invokevirtual 54, 3) := by decide +kernel
theorem dX7_loose_16 : decode cX7_loose 16 = .ok (.ireturn, 1) := by decide +kernel
theorem dX7_loose_17 : decode cX7_loose 17 = .ok (.aload_n 0, 1) := by decide +kernel
theorem dX7_loose_18 : decode cX7_loose 18 = .ok (.getfield 10, 3) := by decide +kernel
theorem dX7_loose_21 : decode cX7_loose 21 = .ok (.getfield 116, 3) := by decide +kernel
theorem dX7_loose_24 : decode cX7_loose 24 = .ok (.iload_n 1, 1) := by decide +kernel
theorem dX7_loose_25 : decode cX7_loose 25 = .ok (.iadd, 1) := by decide +kernel
theorem dX7_loose_26 : decode cX7_loose 26 = .ok (.sipush 9999, 3) := by decide +kernel
theorem dX7_loose_29 : decode cX7_loose 29 = .ok (.if_icmp .le 9, 3) := by decide +kernel
theorem dX7_loose_32 : decode cX7_loose 32 = .ok (.aload_n 0, 1) := by decide +kernel
theorem dX7_loose_33 : decode cX7_loose 33 = .ok (.iconst 3, 1) := by decide +kernel
theorem dX7_loose_34 : decode cX7_loose 34 = .ok (.invokevirtual 54, 3) := by decide +kernel
theorem dX7_loose_37 : decode cX7_loose 37 = .ok (.ireturn, 1) := by decide +kernel
theorem dX7_loose_38 : decode cX7_loose 38 = .ok (.iconst 0, 1) := by decide +kernel
theorem dX7_loose_39 : decode cX7_loose 39 = .ok (.istore_n 2, 1) := by decide +kernel
theorem dX7_loose_40 : decode cX7_loose 40 = .ok (.iload_n 2, 1) := by decide +kernel
theorem dX7_loose_41 : decode cX7_loose 41 = .ok (.iload_n 1, 1) := by decide +kernel
theorem dX7_loose_42 : decode cX7_loose 42 = .ok (.if_icmp .ge 24, 3) := by decide +kernel
theorem dX7_loose_45 : decode cX7_loose 45 = .ok (.aload_n 0, 1) := by decide +kernel
theorem dX7_loose_46 : decode cX7_loose 46 = .ok (.getfield 10, 3) := by decide +kernel
theorem dX7_loose_49 : decode cX7_loose 49 = .ok (.invokevirtual 204, 3) := by decide +kernel
theorem dX7_loose_52 : decode cX7_loose 52 = .ok (.aload_n 0, 1) := by decide +kernel
theorem dX7_loose_53 : decode cX7_loose 53 = .ok (.getfield 10, 3) := by decide +kernel
theorem dX7_loose_56 : decode cX7_loose 56 = .ok (.iconst 1, 1) := by decide +kernel
theorem dX7_loose_57 : decode cX7_loose 57 = .ok (.invokevirtual 200, 3) := by decide +kernel
theorem dX7_loose_60 : decode cX7_loose 60 = .ok (.iinc 2 1, 3) := by decide +kernel
theorem dX7_loose_63 : decode cX7_loose 63 = .ok (.goto (-23), 3) := by decide +kernel
theorem dX7_loose_66 : decode cX7_loose 66 = .ok (.aload_n 0, 1) := by decide +kernel
theorem dX7_loose_67 : decode cX7_loose 67 = .ok (.getfield 10, 3) := by decide +kernel
theorem dX7_loose_70 : decode cX7_loose 70 = .ok (.getfield 126, 3) := by decide +kernel
theorem dX7_loose_73 : decode cX7_loose 73 = .ok (.invokestatic 102, 3) := by decide +kernel
theorem dX7_loose_76 : decode cX7_loose 76 = .ok (.ireturn, 1) := by decide +kernel
theorem dX7_seed_0 : decode cX7_seed 0 = .ok (.aload_n 0, 1) := by decide +kernel
theorem dX7_seed_1 : decode cX7_seed 1 = .ok (.getfield 10, 3) := by decide +kernel
theorem dX7_seed_4 : decode cX7_seed 4 = .ok (.getfield 207, 3) := by decide +kernel
theorem dX7_seed_7 : decode cX7_seed 7 = .ok (.istore_n 2, 1) := by decide +kernel
theorem dX7_seed_8 : decode cX7_seed 8 = .ok (.aload_n 0, 1) := by decide +kernel
theorem dX7_seed_9 : decode cX7_seed 9 = .ok (.getfield 10, 3) := by decide +kernel
theorem dX7_seed_12 : decode cX7_seed 12 = .ok (.iload_n 1, 1) := by decide +kernel
theorem dX7_seed_13 : decode cX7_seed 13 = .ok (.putfield 207, 3) := by decide +kernel
theorem dX7_seed_16 : decode cX7_seed 16 = .ok (.iload_n 2, 1) := by decide +kernel
theorem dX7_seed_17 : decode cX7_seed 17 = .ok (.ireturn, 1) := by decide +kernel
theorem dX7_land_0 : decode cX7_land 0 = .ok (.aload_n 0, 1) := by decide +kernel
theorem dX7_land_1 : decode cX7_land 1 = .ok (.iload_n 1, 1) := by decide +kernel
theorem dX7_land_2 : decode cX7_land 2 = .ok (.invokevirtual 72, 3) := by decide +kernel
theorem dX7_land_5 : decode cX7_land 5 = .ok (.ifCond .eq 12, 3) := by decide +kernel
theorem dX7_land_8 : decode cX7_land 8 = .ok (.iload_n 2, 1) := by decide +kernel
theorem dX7_land_9 : decode cX7_land 9 = .ok (.ifCond .lt 8, 3) := by decide +kernel
theorem dX7_land_12 : decode cX7_land 12 = .ok (.iload_n 2, 1) := by decide +kernel
theorem dX7_land_13 : decode cX7_land 13 = .ok (.iconst 1, 1) := by decide +kernel
theorem dX7_land_14 : decode cX7_land 14 = .ok (.if_icmp .le 10, 3) := by decide +kernel
theorem dX7_land_17 : decode cX7_land 17 = .ok (.aload_n 0, 1) := by decide +kernel
theorem dX7_land_18 : decode cX7_land 18 = .ok (.iconst 1, 1) := by decide +kernel
theorem dX7_land_19 : decode cX7_land 19 = .ok (.invokevirtual 54, 3) := by decide +kernel
theorem dX7_land_22 : decode cX7_land 22 = .ok (.i2l, 1) := by decide +kernel
theorem dX7_land_23 : decode cX7_land 23 = .ok (.lreturn, 1) := by decide +kernel
theorem dX7_land_24 : decode cX7_land 24 = .ok (.iload_n 2, 1) := by decide +kernel
theorem dX7_land_25 : decode cX7_land 25 = .ok (.ifCond .ne 18, 3) := by decide +kernel
theorem dX7_land_28 : decode cX7_land 28 = .ok (.aload_n 0, 1) := by decide +kernel
theorem dX7_land_29 : decode cX7_land 29 = .ok (.getfield 10, 3) := by decide +kernel
theorem dX7_land_32 : decode cX7_land 32 = .ok (.getfield 62, 3) := by decide +kernel
theorem dX7_land_35 : decode cX7_land 35 = .ok (.iload_n 1, 1) := by decide +kernel
theorem dX7_land_36 : decode cX7_land 36 = .ok (.aaload, 1) := by decide +kernel
theorem dX7_land_37 : decode cX7_land 37 = .ok (.invokevirtual 210, 3) := by decide +kernel
theorem dX7_land_40 : decode cX7_land 40 = .ok (.goto 15, 3) := by decide +kernel
theorem dX7_land_43 : decode cX7_land 43 = .ok (.aload_n 0, 1) := by decide +kernel
theorem dX7_land_44 : decode cX7_land 44 = .ok (.getfield 10, 3) := by decide +kernel
theorem dX7_land_47 : decode cX7_land 47 = .ok (.getfield 62, 3) := by decide +kernel
theorem dX7_land_50 : decode cX7_land 50 = .ok (.iload_n 1, 1) := by decide +kernel
theorem dX7_land_51 : decode cX7_land 51 = .ok (.aaload, 1) := by decide +kernel
theorem dX7_land_52 : decode cX7_land 52 = .ok (.invokevirtual 98, 3) := by decide +kernel
theorem dX7_land_55 : decode cX7_land 55 = .ok (.lreturn, 1) := by decide +kernel
theorem dX7_then_0 : decode cX7_then 0 = .ok (.aload_n 0, 1) := by decide +kernel
theorem dX7_then_1 : decode cX7_then 1 = .ok (.iload_n 1, 1) := by decide +kernel
theorem dX7_then_2 : decode cX7_then 2 = .ok (.invokevirtual 72, 3) := by decide +kernel
theorem dX7_then_5 : decode cX7_then 5 = .ok (.ifCond .eq 22, 3) := by decide +kernel
theorem dX7_then_8 : decode cX7_then 8 = .ok (.iload_n 2, 1) := by decide +kernel
theorem dX7_then_9 : decode cX7_then 9 = .ok (.ifCond .lt 18, 3) := by decide +kernel
theorem dX7_then_12 : decode cX7_then 12 = .ok (.iload_n 2, 1) := by decide +kernel
theorem dX7_then_13 : decode cX7_then 13 = .ok (.bipush 60, 2) := by decide +kernel
theorem dX7_then_15 : decode cX7_then 15 = .ok (.if_icmp .gt 12, 3) := by decide +kernel
theorem dX7_then_18 : decode cX7_then 18 = .ok (.iload_n 3, 1) := by decide +kernel
theorem dX7_then_19 : decode cX7_then 19 = .ok (.ifCond .lt 8, 3) := by decide +kernel
theorem dX7_then_22 : decode cX7_then 22 = .ok (.iload_n 3, 1) := by decide +kernel
theorem dX7_then_23 : decode cX7_then 23 = .ok (.iconst 1, 1) := by decide +kernel
theorem dX7_then_24 : decode cX7_then 24 = .ok (.if_icmp .le 9, 3) := by decide +kernel
theorem dX7_then_27 : decode cX7_then 27 = .ok (.aload_n 0, 1) := by decide +kernel
theorem dX7_then_28 : decode cX7_then 28 = .ok (.iconst 1, 1) := by decide +kernel
theorem dX7_then_29 : decode cX7_then 29 = .ok (.invokevirtual 54, 3) := by decide +kernel
theorem dX7_then_32 : decode cX7_then 32 = .ok (.ireturn, 1) := by decide +kernel
theorem dX7_then_33 : decode cX7_then 33 = .ok (.aload_n 0, 1) := by decide +kernel
theorem dX7_then_34 : decode cX7_then 34 = .ok (.getfield 19, 3) := by decide +kernel
theorem dX7_then_37 : decode cX7_then 37 = .ok (.aload_n 0, 1) := by decide +kernel
theorem dX7_then_38 : decode cX7_then 38 = .ok (.getfield 10, 3) := by decide +kernel
theorem dX7_then_41 : decode cX7_then 41 = .ok (.invokevirtual 213, 3) := by decide +kernel
theorem dX7_then_44 : decode cX7_then 44 = .ok (.aload_n 0, 1) := by decide +kernel
theorem dX7_then_45 : decode cX7_then 45 = .ok (.getfield 19, 3) := by decide +kernel
theorem dX7_then_48 : decode cX7_then 48 = .ok (.iload_n 2, 1) := by decide +kernel
theorem dX7_then_49 : decode cX7_then 49 = .ok (.invokevirtual 200, 3) := by decide +kernel
theorem dX7_then_52 : decode cX7_then 52 = .ok (.aload_n 0, 1) := by decide +kernel
theorem dX7_then_53 : decode cX7_then 53 = .ok (.getfield 19, 3) := by decide +kernel
theorem dX7_then_56 : decode cX7_then 56 = .ok (.getfield 62, 3) := by decide +kernel
theorem dX7_then_59 : decode cX7_then 59 = .ok (.iload_n 1, 1) := by decide +kernel
theorem dX7_then_60 : decode cX7_then 60 = .ok (.aaload, 1) := by decide +kernel
theorem dX7_then_61 : decode cX7_then 61 = .ok (.astore 4, 2) := by decide +kernel
theorem dX7_then_63 : decode cX7_then 63 = .ok (.iload_n 3, 1) := by decide +kernel
theorem dX7_then_64 : decode cX7_then 64 = .ok (.ifCond .ne 14, 3) := by decide +kernel
theorem dX7_then_67 : decode cX7_then 67 = .ok (.aload 4, 2) := by decide +kernel
theorem dX7_then_69 : decode cX7_then 69 = .ok (.invokevirtual 98, 3) := by decide +kernel
theorem dX7_then_72 : decode cX7_then 72 = .ok (.invokestatic 102, 3) := by decide +kernel
theorem dX7_then_75 : decode cX7_then 75 = .ok (.goto 8, 3) := by decide +kernel
theorem dX7_then_78 : decode cX7_then 78 = .ok (.aload 4, 2) := by decide +kernel
theorem dX7_then_80 : decode cX7_then 80 = .ok (.getfield 95, 3) := by decide +kernel
theorem dX7_then_83 : decode cX7_then 83 = .ok (.ireturn, 1) := by decide +kernel
theorem dX7_first_0 : decode cX7_first 0 = .ok (.iload_n 1, 1) := by decide +kernel
theorem dX7_first_1 : decode cX7_first 1 = .ok (.invokestatic 75, 3) := by decide +kernel
theorem dX7_first_4 : decode cX7_first 4 = .ok (.ifCond .eq 12, 3) := by decide +kernel
theorem dX7_first_7 : decode cX7_first 7 = .ok (.iload_n 2, 1) := by decide +kernel
theorem dX7_first_8 : decode cX7_first 8 = .ok (.ifCond .lt 8, 3) := by decide +kernel
theorem dX7_first_11 : decode cX7_first 11 = .ok (.iload_n 2, 1) := by decide +kernel
theorem dX7_first_12 : decode cX7_first 12 = .ok (.iconst 1, 1) := by decide +kernel
theorem dX7_first_13 : decode cX7_first 13 = .ok (.if_icmp .le 9, 3) := by decide +kernel
theorem dX7_first_16 : decode cX7_first 16 = .ok (.aload_n 0, 1) := by decide +kernel
theorem dX7_first_17 : decode cX7_first 17 = .ok (.iconst 1, 1) := by decide +kernel
theorem dX7_first_18 : decode cX7_first 18 = .ok (.invokevirtual 54, 3) := by decide +kernel
theorem dX7_first_21 : decode cX7_first 21 = .ok (.ireturn, 1) := by decide +kernel
theorem dX7_first_22 : decode cX7_first 22 = .ok (.aload_n 0, 1) := by decide +kernel
theorem dX7_first_23 : decode cX7_first 23 = .ok (.getfield 19, 3) := by decide +kernel
theorem dX7_first_26 : decode cX7_first 26 = .ok (.aload_n 0, 1) := by decide +kernel
theorem dX7_first_27 : decode cX7_first 27 = .ok (.getfield 10, 3) := by decide +kernel
theorem dX7_first_30 : decode cX7_first 30 = .ok (.invokevirtual 213, 3) := by decide +kernel
theorem dX7_first_33 : decode cX7_first 33 = .ok (.iconst 0, 1) := by decide +kernel
theorem dX7_first_34 : decode cX7_first 34 = .ok (.istore_n 3, 1) := by decide +kernel
theorem dX7_first_35 : decode cX7_first 35 = .ok (.iload_n 3, 1) := by decide +kernel
theorem dX7_first_36 : decode cX7_first 36 = .ok (.bipush 60, 2) := by decide +kernel
theorem dX7_first_38 : decode cX7_first 38 = .ok (.if_icmp .gt 49, 3) := by decide +kernel
theorem dX7_first_41 : decode cX7_first 41 = .ok (.aload_n 0, 1) := by decide +kernel
theorem dX7_first_42 : decode cX7_first 42 = .ok (.getfield 19, 3) := by decide +kernel
theorem dX7_first_45 : decode cX7_first 45 = .ok (.invokevirtual 155, 3) := by decide +kernel
theorem dX7_first_48 : decode cX7_first 48 = .ok (.aload_n 0, 1) := by decide +kernel
theorem dX7_first_49 : decode cX7_first 49 = .ok (.getfield 19, 3) := by decide +kernel
theorem dX7_first_52 : decode cX7_first 52 = .ok (.iload_n 1, 1) := by decide +kernel
theorem dX7_first_53 : decode cX7_first 53 = .ok (.invokevirtual 158, 3) := by decide +kernel
theorem dX7_first_56 : decode cX7_first 56 = .ok (.istore 4, 2) := by decide +kernel
theorem dX7_first_58 : decode cX7_first 58 = .ok (.iload 4, 2) := by decide +kernel
theorem dX7_first_60 : decode cX7_first 60 = .ok (.ifCond .lt 14, 3) := by decide +kernel
theorem dX7_first_63 : decode cX7_first 63 = .ok (.iload_n 2, 1) := by decide +kernel
theorem dX7_first_64 : decode cX7_first 64 = .ok (.ifCond .ne 7, 3) := by decide +kernel
theorem dX7_first_67 : decode cX7_first 67 = .ok (.iload_n 3, 1) := by decide +kernel
theorem dX7_first_68 : decode cX7_first 68 = .ok (.goto 5, 3) := by decide +kernel
theorem dX7_first_71 : decode cX7_first 71 = .ok (.iload 4, 2) := by decide +kernel
theorem dX7_first_73 : decode cX7_first 73 = .ok (.ireturn, 1) := by decide +kernel
theorem dX7_first_74 : decode cX7_first 74 = .ok (.aload_n 0, 1) := by decide +kernel
theorem dX7_first_75 : decode cX7_first 75 = .ok (.getfield 19, 3) := by decide +kernel
theorem dX7_first_78 : decode cX7_first 78 = .ok (.invokevirtual 217, 3) := by decide +kernel
theorem dX7_first_81 : decode cX7_first 81 = .ok (.iinc 3 1, 3) := by decide +kernel
theorem dX7_first_84 : decode cX7_first 84 = .ok (.goto (-49), 3) := by decide +kernel
theorem dX7_first_87 : decode cX7_first 87 = .ok (.aload_n 0, 1) := by decide +kernel
theorem dX7_first_88 : decode cX7_first 88 = .ok (.iconst 2, 1) := by decide +kernel
theorem dX7_first_89 : decode cX7_first 89 = .ok (.invokevirtual 54, 3) := by decide +kernel
theorem dX7_first_92 : decode cX7_first 92 = .ok (.ireturn, 1) := by decide +kernel
theorem dX7_salts_0 : decode cX7_salts 0 = .ok (.aload_n 0, 1) := by decide +kernel
theorem dX7_salts_1 : decode cX7_salts 1 = .ok (.iload_n 1, 1) := by decide +kernel
theorem dX7_salts_2 : decode cX7_salts 2 = .ok (.invokevirtual 72, 3) := by decide +kernel
theorem dX7_salts_5 : decode cX7_salts 5 = .ok (.ifCond .eq 32, 3) := by decide +kernel
theorem dX7_salts_8 : decode cX7_salts 8 = .ok (.iload_n 2, 1) := by decide +kernel
theorem dX7_salts_9 : decode cX7_salts 9 = .ok (.invokestatic 75, 3) := by decide +kernel
theorem dX7_salts_12 : decode cX7_salts 12 = .ok (.ifCond .eq 25, 3) := by decide +kernel
theorem dX7_salts_15 : decode cX7_salts 15 = .ok (.iload_n 3, 1) := by decide +kernel
theorem dX7_salts_16 : decode cX7_salts 16 = .ok (.ifCond .lt 21, 3) := by decide +kernel
theorem dX7_salts_19 : decode cX7_salts 19 = .ok (.iload_n 3, 1) := by decide +kernel
theorem dX7_salts_20 : decode cX7_salts 20 = .ok (.bipush 6, 2) := by decide +kernel
theorem dX7_salts_22 : decode cX7_salts 22 = .ok (.if_icmp .gt 15, 3) := by decide +kernel
theorem dX7_salts_25 : decode cX7_salts 25 = .ok (.iload 4, 2) := by decide +kernel
theorem dX7_salts_27 : decode cX7_salts 27 = .ok (.iconst (-1), 1) := by decide +kernel
theorem dX7_salts_28 : decode cX7_salts 28 = .ok (.if_icmp .lt 9, 3) := by decide +kernel
theorem dX7_salts_31 : decode cX7_salts 31 = .ok (.iload 4, 2) := by decide +kernel
theorem dX7_salts_33 : decode cX7_salts 33 = .ok (.iconst 1, 1) := by decide +kernel
theorem dX7_salts_34 : decode cX7_salts 34 = .ok (.if_icmp .le 9, 3) := by decide +kernel
theorem dX7_salts_37 : decode cX7_salts 37 = .ok (.aload_n 0, 1) := by decide +kernel
theorem dX7_salts_38 : decode cX7_salts 38 = .ok (.iconst 1, 1) := by decide +kernel
theorem dX7_salts_39 : decode cX7_salts 39 = .ok (.invokevirtual 54, 3) := by decide +kernel
theorem dX7_salts_42 : decode cX7_salts 42 = .ok (.ireturn, 1) := by decide +kernel
theorem dX7_salts_43 : decode cX7_salts 43 = .ok (.aload_n 0, 1) := by decide +kernel
theorem dX7_salts_44 : decode cX7_salts 44 = .ok (.iload_n 1, 1) := by decide +kernel
theorem dX7_salts_45 : decode cX7_salts 45 = .ok (.iload_n 2, 1) := by decide +kernel
theorem dX7_salts_46 : decode cX7_salts 46 = .ok (.iload_n 3, 1) := by decide +kernel
theorem dX7_salts_47 : decode cX7_salts 47 = .ok (.invokevirtual 220, 3) := by decide +kernel
theorem dX7_salts_50 : decode cX7_salts 50 = .ok (.lstore 5, 2) := by decide +kernel
theorem dX7_salts_52 : decode cX7_salts 52 = .ok (.lload 5, 2) := by decide +kernel
theorem dX7_salts_54 : decode cX7_salts 54 = .ok (.ldc2_w 137, 3) := by decide +kernel
theorem dX7_salts_57 : decode cX7_salts 57 = .ok (.lcmp, 1) := by decide +kernel
theorem dX7_salts_58 : decode cX7_salts 58 = .ok (.ifCond .ne 9, 3) := by decide +kernel
theorem dX7_salts_61 : decode cX7_salts 61 = .ok (.aload_n 0, 1) := by decide +kernel
theorem dX7_salts_62 : decode cX7_salts 62 = .ok (.iconst 2, 1) := by decide +kernel
theorem dX7_salts_63 : decode cX7_salts 63 = .ok (.invokevirtual 54, 3) := by decide +kernel
theorem dX7_salts_66 : decode cX7_salts 66 = .ok (.ireturn, 1) := by decide +kernel
theorem dX7_salts_67 : decode cX7_salts 67 = .ok (.iload 4, 2) := by decide +kernel
theorem dX7_salts_69 : decode cX7_salts 69 = .ok (.ifCond .ge 9, 3) := by decide +kernel
theorem dX7_salts_72 : decode cX7_salts 72 = .ok (.lload 5, 2) := by decide +kernel
theorem dX7_salts_74 : decode cX7_salts 74 = .ok (.invokestatic 102, 3) := by decide +kernel
theorem dX7_salts_77 : decode cX7_salts 77 = .ok (.ireturn, 1) := by decide +kernel
theorem dX7_salts_78 : decode cX7_salts 78 = .ok (.iload 4, 2) := by decide +kernel
theorem dX7_salts_80 : decode cX7_salts 80 = .ok (.ifCond .ne 8, 3) := by decide +kernel
theorem dX7_salts_83 : decode cX7_salts 83 = .ok (.lload 5, 2) := by decide +kernel
theorem dX7_salts_85 : decode cX7_salts 85 = .ok (.goto 10, 3) := by decide +kernel
theorem dX7_salts_88 : decode cX7_salts 88 = .ok (.lload 5, 2) := by decide +kernel
theorem dX7_salts_90 : decode cX7_salts 90 = .ok (.lload 5, 2) := by decide +kernel
theorem dX7_salts_92 : decode cX7_salts 92 = .ok (.lconst 1, 1) := by decide +kernel
theorem dX7_salts_93 : decode cX7_salts 93 = .ok (.lsub, 1) := by decide +kernel
theorem dX7_salts_94 : decode cX7_salts 94 = .ok (.land, 1) := by decide +kernel
theorem dX7_salts_95 : decode cX7_salts 95 = .ok (.lstore 7, 2) := by decide +kernel
theorem dX7_salts_97 : decode cX7_salts 97 = .ok (.lload 7, 2) := by decide +kernel
theorem dX7_salts_99 : decode cX7_salts 99 = .ok (.lconst 0, 1) := by decide +kernel
theorem dX7_salts_100 : decode cX7_salts 100 = .ok (.lcmp, 1) := by decide +kernel
theorem dX7_salts_101 : decode cX7_salts 101 = .ok (.ifCond .ne 7, 3) := by decide +kernel
theorem dX7_salts_104 : decode cX7_salts 104 = .ok (.iconst (-1), 1) := by decide +kernel
theorem dX7_salts_105 : decode cX7_salts 105 = .ok (.goto 8, 3) := by decide +kernel
theorem dX7_salts_108 : decode cX7_salts 108 = .ok (.lload 7, 2) := by decide +kernel
theorem dX7_salts_110 : decode cX7_salts 110 = .ok (.invokestatic 224, 3) := by decide +kernel
theorem dX7_salts_113 : decode cX7_salts 113 = .ok (.ireturn, 1) := by decide +kernel
theorem dX7_way_0 : decode cX7_way 0 = .ok (.aload_n 0, 1) := by decide +kernel
theorem dX7_way_1 : decode cX7_way 1 = .ok (.iload_n 1, 1) := by decide +kernel
theorem dX7_way_2 : decode cX7_way 2 = .ok (.invokevirtual 152, 3) := by decide +kernel
theorem dX7_way_5 : decode cX7_way 5 = .ok (.ifCond .eq 10, 3) := by decide +kernel
theorem dX7_way_8 : decode cX7_way 8 = .ok (.iload_n 2, 1) := by decide +kernel
theorem dX7_way_9 : decode cX7_way 9 = .ok (.invokestatic 75, 3) := by decide +kernel
theorem dX7_way_12 : decode cX7_way 12 = .ok (.ifCond .ne 9, 3) := by decide +kernel
theorem dX7_way_15 : decode cX7_way 15 = .ok (.aload_n 0, 1) := by decide +kernel
theorem dX7_way_16 : decode cX7_way 16 = .ok (.iconst 1, 1) := by decide +kernel
theorem dX7_way_17 : decode cX7_way 17 = .ok (.invokevirtual 54, 3) := by decide +kernel
theorem dX7_way_20 : decode cX7_way 20 = .ok (.ireturn, 1) := by decide +kernel
theorem dX7_way_21 : decode cX7_way 21 = .ok (.aload_n 0, 1) := by decide +kernel
theorem dX7_way_22 : decode cX7_way 22 = .ok (.getfield 19, 3) := by decide +kernel
theorem dX7_way_25 : decode cX7_way 25 = .ok (.aload_n 0, 1) := by decide +kernel
theorem dX7_way_26 : decode cX7_way 26 = .ok (.getfield 10, 3) := by decide +kernel
theorem dX7_way_29 : decode cX7_way 29 = .ok (.invokevirtual 213, 3) := by decide +kernel
theorem dX7_way_32 : decode cX7_way 32 = .ok (.aload_n 0, 1) := by decide +kernel
theorem dX7_way_33 : decode cX7_way 33 = .ok (.getfield 10, 3) := by decide +kernel
theorem dX7_way_36 : decode cX7_way 36 = .ok (.getfield 146, 3) := by decide +kernel
theorem dX7_way_39 : decode cX7_way 39 = .ok (.iload_n 1, 1) := by decide +kernel
theorem dX7_way_40 : decode cX7_way 40 = .ok (.iaload, 1) := by decide +kernel
theorem dX7_way_41 : decode cX7_way 41 = .ok (.invokestatic 133, 3) := by decide +kernel
theorem dX7_way_44 : decode cX7_way 44 = .ok (.lstore_n 3, 1) := by decide +kernel
theorem dX7_way_45 : decode cX7_way 45 = .ok (.iconst 0, 1) := by decide +kernel
theorem dX7_way_46 : decode cX7_way 46 = .ok (.istore 5, 2) := by decide +kernel
theorem dX7_way_48 : decode cX7_way 48 = .ok (.iload 5, 2) := by decide +kernel
theorem dX7_way_50 : decode cX7_way 50 = .ok (.bipush 60, 2) := by decide +kernel
theorem dX7_way_52 : decode cX7_way 52 = .ok (.if_icmp .gt 46, 3) := by decide +kernel
theorem dX7_way_55 : decode cX7_way 55 = .ok (.lload_n 3, 1) := by decide +kernel
theorem dX7_way_56 : decode cX7_way 56 = .ok (.iload_n 2, 1) := by decide +kernel
theorem dX7_way_57 : decode cX7_way 57 = .ok (.invokestatic 139, 3) := by decide +kernel
theorem dX7_way_60 : decode cX7_way 60 = .ok (.ifCond .eq 6, 3) := by decide +kernel
theorem dX7_way_63 : decode cX7_way 63 = .ok (.iload 5, 2) := by decide +kernel
theorem dX7_way_65 : decode cX7_way 65 = .ok (.ireturn, 1) := by decide +kernel
theorem dX7_way_66 : decode cX7_way 66 = .ok (.aload_n 0, 1) := by decide +kernel
theorem dX7_way_67 : decode cX7_way 67 = .ok (.getfield 19, 3) := by decide +kernel
theorem dX7_way_70 : decode cX7_way 70 = .ok (.invokevirtual 217, 3) := by decide +kernel
theorem dX7_way_73 : decode cX7_way 73 = .ok (.lload_n 3, 1) := by decide +kernel
theorem dX7_way_74 : decode cX7_way 74 = .ok (.lload_n 3, 1) := by decide +kernel
theorem dX7_way_75 : decode cX7_way 75 = .ok (.invokestatic 227, 3) := by decide +kernel
theorem dX7_way_78 : decode cX7_way 78 = .ok (.aload_n 0, 1) := by decide +kernel
theorem dX7_way_79 : decode cX7_way 79 = .ok (.getfield 19, 3) := by decide +kernel
theorem dX7_way_82 : decode cX7_way 82 = .ok (.invokevirtual 231, 3) := by decide +kernel
theorem dX7_way_85 : decode cX7_way 85 = .ok (.ldc2_w 137, 3) := by decide +kernel
theorem dX7_way_88 : decode cX7_way 88 = .ok (.lxor, 1) := by decide +kernel
theorem dX7_way_89 : decode cX7_way 89 = .ok (.land, 1) := by decide +kernel
theorem dX7_way_90 : decode cX7_way 90 = .ok (.lor, 1) := by decide +kernel
theorem dX7_way_91 : decode cX7_way 91 = .ok (.lstore_n 3, 1) := by decide +kernel
theorem dX7_way_92 : decode cX7_way 92 = .ok (.iinc 5 1, 3) := by decide +kernel
theorem dX7_way_95 : decode cX7_way 95 = .ok (.goto (-47), 3) := by decide +kernel
theorem dX7_way_98 : decode cX7_way 98 = .ok (.aload_n 0, 1) := by decide +kernel
theorem dX7_way_99 : decode cX7_way 99 = .ok (.iconst 2, 1) := by decide +kernel
theorem dX7_way_100 : decode cX7_way 100 = .ok (.invokevirtual 54, 3) := by decide +kernel
theorem dX7_way_103 : decode cX7_way 103 = .ok (.ireturn, 1) := by decide +kernel
theorem dX7_odds_0 : decode cX7_odds 0 = .ok (.iload_n 1, 1) := by decide +kernel
theorem dX7_odds_1 : decode cX7_odds 1 = .ok (.ifCond .lt 8, 3) := by decide +kernel
theorem dX7_odds_4 : decode cX7_odds 4 = .ok (.iload_n 1, 1) := by decide +kernel
theorem dX7_odds_5 : decode cX7_odds 5 = .ok (.iconst 1, 1) := by decide +kernel
theorem dX7_odds_6 : decode cX7_odds 6 = .ok (.if_icmp .le 9, 3) := by decide +kernel
theorem dX7_odds_9 : decode cX7_odds 9 = .ok (.aload_n 0, 1) := by decide +kernel
theorem dX7_odds_10 : decode cX7_odds 10 = .ok (.iconst 1, 1) := by decide +kernel
theorem dX7_odds_11 : decode cX7_odds 11 = .ok (.invokevirtual 54, 3) := by decide +kernel
theorem dX7_odds_14 : decode cX7_odds 14 = .ok (.ireturn, 1) := by decide +kernel
theorem dX7_odds_15 : decode cX7_odds 15 = .ok (.aload_n 0, 1) := by decide +kernel
theorem dX7_odds_16 : decode cX7_odds 16 = .ok (.getfield 10, 3) := by decide +kernel
theorem dX7_odds_19 : decode cX7_odds 19 = .ok (.invokevirtual 155, 3) := by decide +kernel
theorem dX7_odds_22 : decode cX7_odds 22 = .ok (.aload_n 0, 1) := by decide +kernel
theorem dX7_odds_23 : decode cX7_odds 23 = .ok (.getfield 10, 3) := by decide +kernel
theorem dX7_odds_26 : decode cX7_odds 26 = .ok (.invokevirtual 232, 3) := by decide +kernel
theorem dX7_odds_29 : decode cX7_odds 29 = .ok (.invokestatic 102, 3) := by decide +kernel
theorem dX7_odds_32 : decode cX7_odds 32 = .ok (.istore_n 2, 1) := by decide +kernel
theorem dX7_odds_33 : decode cX7_odds 33 = .ok (.bipush 64, 2) := by decide +kernel
theorem dX7_odds_35 : decode cX7_odds 35 = .ok (.istore_n 3, 1) := by decide +kernel
theorem dX7_odds_36 : decode cX7_odds 36 = .ok (.iconst 0, 1) := by decide +kernel
theorem dX7_odds_37 : decode cX7_odds 37 = .ok (.istore 4, 2) := by decide +kernel
theorem dX7_odds_39 : decode cX7_odds 39 = .ok (.iload 4, 2) := by decide +kernel
theorem dX7_odds_41 : decode cX7_odds 41 = .ok (.bipush 64, 2) := by decide +kernel
theorem dX7_odds_43 : decode cX7_odds 43 = .ok (.if_icmp .ge 29, 3) := by decide +kernel
theorem dX7_odds_46 : decode cX7_odds 46 = .ok (.iload_n 2, 1) := by decide +kernel
theorem dX7_odds_47 : decode cX7_odds 47 = .ok (.iconst 2, 1) := by decide +kernel
theorem dX7_odds_48 : decode cX7_odds 48 = .ok (.irem, 1) := by decide +kernel
theorem dX7_odds_49 : decode cX7_odds 49 = .ok (.ifCond .ne 23, 3) := by decide +kernel
theorem dX7_odds_52 : decode cX7_odds 52 = .ok (.iload_n 3, 1) := by decide +kernel
theorem dX7_odds_53 : decode cX7_odds 53 = .ok (.iconst 2, 1) := by decide +kernel
theorem dX7_odds_54 : decode cX7_odds 54 = .ok (.irem, 1) := by decide +kernel
theorem dX7_odds_55 : decode cX7_odds 55 = .ok (.ifCond .ne 17, 3) := by decide +kernel
theorem dX7_odds_58 : decode cX7_odds 58 = .ok (.iload_n 2, 1) := by decide +kernel
theorem dX7_odds_59 : decode cX7_odds 59 = .ok (.iconst 2, 1) := by decide +kernel
theorem dX7_odds_60 : decode cX7_odds 60 = .ok (.idiv, 1) := by decide +kernel
theorem dX7_odds_61 : decode cX7_odds 61 = .ok (.istore_n 2, 1) := by decide +kernel
theorem dX7_odds_62 : decode cX7_odds 62 = .ok (.iload_n 3, 1) := by decide +kernel
theorem dX7_odds_63 : decode cX7_odds 63 = .ok (.iconst 2, 1) := by decide +kernel
theorem dX7_odds_64 : decode cX7_odds 64 = .ok (.idiv, 1) := by decide +kernel
theorem dX7_odds_65 : decode cX7_odds 65 = .ok (.istore_n 3, 1) := by decide +kernel
theorem dX7_odds_66 : decode cX7_odds 66 = .ok (.iinc 4 1, 3) := by decide +kernel
theorem dX7_odds_69 : decode cX7_odds 69 = .ok (.goto (-30), 3) := by decide +kernel
theorem dX7_odds_72 : decode cX7_odds 72 = .ok (.iload_n 1, 1) := by decide +kernel
theorem dX7_odds_73 : decode cX7_odds 73 = .ok (.ifCond .ne 7, 3) := by decide +kernel
theorem dX7_odds_76 : decode cX7_odds 76 = .ok (.iload_n 2, 1) := by decide +kernel
theorem dX7_odds_77 : decode cX7_odds 77 = .ok (.goto 4, 3) := by decide +kernel
theorem dX7_odds_80 : decode cX7_odds 80 = .ok (.iload_n 3, 1) := by decide +kernel
theorem dX7_odds_81 : decode cX7_odds 81 = .ok (.ireturn, 1) := by decide +kernel
theorem dX7_fits_0 : decode cX7_fits 0 = .ok (.iload_n 1, 1) := by decide +kernel
theorem dX7_fits_1 : decode cX7_fits 1 = .ok (.invokestatic 235, 3) := by decide +kernel
theorem dX7_fits_4 : decode cX7_fits 4 = .ok (.ifCond .eq 11, 3) := by decide +kernel
theorem dX7_fits_7 : decode cX7_fits 7 = .ok (.aload_n 0, 1) := by decide +kernel
theorem dX7_fits_8 : decode cX7_fits 8 = .ok (.iload_n 2, 1) := by decide +kernel
theorem dX7_fits_9 : decode cX7_fits 9 = .ok (.invokevirtual 72, 3) := by decide +kernel
theorem dX7_fits_12 : decode cX7_fits 12 = .ok (.ifCond .ne 9, 3) := by decide +kernel
theorem dX7_fits_15 : decode cX7_fits 15 = .ok (.aload_n 0, 1) := by decide +kernel
theorem dX7_fits_16 : decode cX7_fits 16 = .ok (.iconst 1, 1) := by decide +kernel
theorem dX7_fits_17 : decode cX7_fits 17 = .ok (.invokevirtual 54, 3) := by decide +kernel
theorem dX7_fits_20 : decode cX7_fits 20 = .ok (.ireturn, 1) := by decide +kernel
theorem dX7_fits_21 : decode cX7_fits 21 = .ok (.aload_n 0, 1) := by decide +kernel
theorem dX7_fits_22 : decode cX7_fits 22 = .ok (.getfield 38, 3) := by decide +kernel
theorem dX7_fits_25 : decode cX7_fits 25 = .ok (.iload_n 1, 1) := by decide +kernel
theorem dX7_fits_26 : decode cX7_fits 26 = .ok (.aaload, 1) := by decide +kernel
theorem dX7_fits_27 : decode cX7_fits 27 = .ok (.getfield 238, 3) := by decide +kernel
theorem dX7_fits_30 : decode cX7_fits 30 = .ok (.ifCond .ne 9, 3) := by decide +kernel
theorem dX7_fits_33 : decode cX7_fits 33 = .ok (.aload_n 0, 1) := by decide +kernel
theorem dX7_fits_34 : decode cX7_fits 34 = .ok (.iconst 2, 1) := by decide +kernel
theorem dX7_fits_35 : decode cX7_fits 35 = .ok (.invokevirtual 54, 3) := by decide +kernel
theorem dX7_fits_38 : decode cX7_fits 38 = .ok (.ireturn, 1) := by decide +kernel
theorem dX7_fits_39 : decode cX7_fits 39 = .ok (.aload_n 0, 1) := by decide +kernel
theorem dX7_fits_40 : decode cX7_fits 40 = .ok (.getfield 19, 3) := by decide +kernel
theorem dX7_fits_43 : decode cX7_fits 43 = .ok (.aload_n 0, 1) := by decide +kernel
theorem dX7_fits_44 : decode cX7_fits 44 = .ok (.getfield 10, 3) := by decide +kernel
theorem dX7_fits_47 : decode cX7_fits 47 = .ok (.invokevirtual 213, 3) := by decide +kernel
theorem dX7_fits_50 : decode cX7_fits 50 = .ok (.iconst 0, 1) := by decide +kernel
theorem dX7_fits_51 : decode cX7_fits 51 = .ok (.istore_n 3, 1) := by decide +kernel
theorem dX7_fits_52 : decode cX7_fits 52 = .ok (.iload_n 3, 1) := by decide +kernel
theorem dX7_fits_53 : decode cX7_fits 53 = .ok (.bipush 60, 2) := by decide +kernel
theorem dX7_fits_55 : decode cX7_fits 55 = .ok (.if_icmp .gt 39, 3) := by decide +kernel
theorem dX7_fits_58 : decode cX7_fits 58 = .ok (.aload_n 0, 1) := by decide +kernel
theorem dX7_fits_59 : decode cX7_fits 59 = .ok (.getfield 38, 3) := by decide +kernel
theorem dX7_fits_62 : decode cX7_fits 62 = .ok (.iload_n 1, 1) := by decide +kernel
theorem dX7_fits_63 : decode cX7_fits 63 = .ok (.aaload, 1) := by decide +kernel
theorem dX7_fits_64 : decode cX7_fits 64 = .ok (.aload_n 0, 1) := by decide +kernel
theorem dX7_fits_65 : decode cX7_fits 65 = .ok (.getfield 19, 3) := by decide +kernel
theorem dX7_fits_68 : decode cX7_fits 68 = .ok (.getfield 62, 3) := by decide +kernel
theorem dX7_fits_71 : decode cX7_fits 71 = .ok (.iload_n 2, 1) := by decide +kernel
theorem dX7_fits_72 : decode cX7_fits 72 = .ok (.aaload, 1) := by decide +kernel
theorem dX7_fits_73 : decode cX7_fits 73 = .ok (.invokevirtual 241, 3) := by decide +kernel
theorem dX7_fits_76 : decode cX7_fits 76 = .ok (.ifCond .eq 5, 3) := by decide +kernel
theorem dX7_fits_79 : decode cX7_fits 79 = .ok (.iload_n 3, 1) := by decide +kernel
theorem dX7_fits_80 : decode cX7_fits 80 = .ok (.ireturn, 1) := by decide +kernel
theorem dX7_fits_81 : decode cX7_fits 81 = .ok (.aload_n 0, 1) := by decide +kernel
theorem dX7_fits_82 : decode cX7_fits 82 = .ok (.getfield 19, 3) := by decide +kernel
theorem dX7_fits_85 : decode cX7_fits 85 = .ok (.invokevirtual 217, 3) := by decide +kernel
theorem dX7_fits_88 : decode cX7_fits 88 = .ok (.iinc 3 1, 3) := by decide +kernel
theorem dX7_fits_91 : decode cX7_fits 91 = .ok (.goto (-39), 3) := by decide +kernel
theorem dX7_fits_94 : decode cX7_fits 94 = .ok (.aload_n 0, 1) := by decide +kernel
theorem dX7_fits_95 : decode cX7_fits 95 = .ok (.iconst 2, 1) := by decide +kernel
theorem dX7_fits_96 : decode cX7_fits 96 = .ok (.invokevirtual 54, 3) := by decide +kernel
theorem dX7_fits_99 : decode cX7_fits 99 = .ok (.ireturn, 1) := by decide +kernel
theorem dX7_voice_0 : decode cX7_voice 0 = .ok (.aload_n 0, 1) := by decide +kernel
theorem dX7_voice_1 : decode cX7_voice 1 = .ok (.iload_n 1, 1) := by decide +kernel
theorem dX7_voice_2 : decode cX7_voice 2 = .ok (.invokevirtual 72, 3) := by decide +kernel
theorem dX7_voice_5 : decode cX7_voice 5 = .ok (.ifCond .eq 12, 3) := by decide +kernel
theorem dX7_voice_8 : decode cX7_voice 8 = .ok (.iload_n 2, 1) := by decide +kernel
theorem dX7_voice_9 : decode cX7_voice 9 = .ok (.ifCond .lt 8, 3) := by decide +kernel
theorem dX7_voice_12 : decode cX7_voice 12 = .ok (.iload_n 2, 1) := by decide +kernel
theorem dX7_voice_13 : decode cX7_voice 13 = .ok (.iconst 3, 1) := by decide +kernel
theorem dX7_voice_14 : decode cX7_voice 14 = .ok (.if_icmp .le 9, 3) := by decide +kernel
theorem dX7_voice_17 : decode cX7_voice 17 = .ok (.aload_n 0, 1) := by decide +kernel
theorem dX7_voice_18 : decode cX7_voice 18 = .ok (.iconst 1, 1) := by decide +kernel
theorem dX7_voice_19 : decode cX7_voice 19 = .ok (.invokevirtual 54, 3) := by decide +kernel
theorem dX7_voice_22 : decode cX7_voice 22 = .ok (.ireturn, 1) := by decide +kernel
theorem dX7_voice_23 : decode cX7_voice 23 = .ok (.aload_n 0, 1) := by decide +kernel
theorem dX7_voice_24 : decode cX7_voice 24 = .ok (.getfield 10, 3) := by decide +kernel
theorem dX7_voice_27 : decode cX7_voice 27 = .ok (.getfield 62, 3) := by decide +kernel
theorem dX7_voice_30 : decode cX7_voice 30 = .ok (.iload_n 1, 1) := by decide +kernel
theorem dX7_voice_31 : decode cX7_voice 31 = .ok (.aaload, 1) := by decide +kernel
theorem dX7_voice_32 : decode cX7_voice 32 = .ok (.astore 4, 2) := by decide +kernel
theorem dX7_voice_34 : decode cX7_voice 34 = .ok (.aload_n 0, 1) := by decide +kernel
theorem dX7_voice_35 : decode cX7_voice 35 = .ok (.getfield 32, 3) := by decide +kernel
theorem dX7_voice_38 : decode cX7_voice 38 = .ok (.iload_n 2, 1) := by decide +kernel
theorem dX7_voice_39 : decode cX7_voice 39 = .ok (.aload 4, 2) := by decide +kernel
theorem dX7_voice_41 : decode cX7_voice 41 = .ok (.getfield 86, 3) := by decide +kernel
theorem dX7_voice_44 : decode cX7_voice 44 = .ok (.aload 4, 2) := by decide +kernel
theorem dX7_voice_46 : decode cX7_voice 46 = .ok (.getfield 89, 3) := by decide +kernel
theorem dX7_voice_49 : decode cX7_voice 49 = .ok (.iload_n 1, 1) := by decide +kernel
theorem dX7_voice_50 : decode cX7_voice 50 = .ok (.iload_n 3, 1) := by decide +kernel
theorem dX7_voice_51 : decode cX7_voice 51 = .ok (.invokevirtual 245, 3) := by decide +kernel
theorem dX7_voice_54 : decode cX7_voice 54 = .ok (.istore 5, 2) := by decide +kernel
theorem dX7_voice_56 : decode cX7_voice 56 = .ok (.aload_n 0, 1) := by decide +kernel
theorem dX7_voice_57 : decode cX7_voice 57 = .ok (.getfield 32, 3) := by decide +kernel
theorem dX7_voice_60 : decode cX7_voice 60 = .ok (.getfield 249, 3) := by decide +kernel
theorem dX7_voice_63 : decode cX7_voice 63 = .ok (.ifCond .eq 12, 3) := by decide +kernel
theorem dX7_voice_66 : decode cX7_voice 66 = .ok (.aload_n 0, 1) := by decide +kernel
theorem dX7_voice_67 : decode cX7_voice 67 = .ok (.bipush 6, 2) := by decide +kernel
theorem dX7_voice_69 : decode cX7_voice 69 = .ok (.invokevirtual 54, 3) := by decide +kernel
theorem dX7_voice_72 : decode cX7_voice 72 = .ok (.goto 5, 3) := by decide +kernel
theorem dX7_voice_75 : decode cX7_voice 75 = .ok (.iload 5, 2) := by decide +kernel
theorem dX7_voice_77 : decode cX7_voice 77 = .ok (.ireturn, 1) := by decide +kernel
theorem dX7_body_0 : decode cX7_body 0 = .ok (.iload_n 1, 1) := by decide +kernel
theorem dX7_body_1 : decode cX7_body 1 = .ok (.ifCond .lt 14, 3) := by decide +kernel
theorem dX7_body_4 : decode cX7_body 4 = .ok (.iload_n 1, 1) := by decide +kernel
theorem dX7_body_5 : decode cX7_body 5 = .ok (.aload_n 0, 1) := by decide +kernel
theorem dX7_body_6 : decode cX7_body 6 = .ok (.getfield 32, 3) := by decide +kernel
theorem dX7_body_9 : decode cX7_body 9 = .ok (.getfield 253, 3) := by decide +kernel
theorem dX7_body_12 : decode cX7_body 12 = .ok (.if_icmp .lt 9, 3) := by decide +kernel
theorem dX7_body_15 : decode cX7_body 15 = .ok (.aload_n 0, 1) := by decide +kernel
theorem dX7_body_16 : decode cX7_body 16 = .ok (.iconst 2, 1) := by decide +kernel
theorem dX7_body_17 : decode cX7_body 17 = .ok (.invokevirtual 54, 3) := by decide +kernel
theorem dX7_body_20 : decode cX7_body 20 = .ok (.ireturn, 1) := by decide +kernel
theorem dX7_body_21 : decode cX7_body 21 = .ok (.aload_n 0, 1) := by decide +kernel
theorem dX7_body_22 : decode cX7_body 22 = .ok (.getfield 32, 3) := by decide +kernel
theorem dX7_body_25 : decode cX7_body 25 = .ok (.getfield 256, 3) := by decide +kernel
theorem dX7_body_28 : decode cX7_body 28 = .ok (.iload_n 1, 1) := by decide +kernel
theorem dX7_body_29 : decode cX7_body 29 = .ok (.iaload, 1) := by decide +kernel
theorem dX7_body_30 : decode cX7_body 30 = .ok (.ireturn, 1) := by decide +kernel
theorem dX7_sheet_0 : decode cX7_sheet 0 = .ok (.iload_n 1, 1) := by decide +kernel
theorem dX7_sheet_1 : decode cX7_sheet 1 = .ok (.invokestatic 235, 3) := by decide +kernel
theorem dX7_sheet_4 : decode cX7_sheet 4 = .ok (.ifCond .eq 10, 3) := by decide +kernel
theorem dX7_sheet_7 : decode cX7_sheet 7 = .ok (.iload_n 2, 1) := by decide +kernel
theorem dX7_sheet_8 : decode cX7_sheet 8 = .ok (.invokestatic 259, 3) := by decide +kernel
theorem dX7_sheet_11 : decode cX7_sheet 11 = .ok (.ifCond .ne 9, 3) := by decide +kernel
theorem dX7_sheet_14 : decode cX7_sheet 14 = .ok (.aload_n 0, 1) := by decide +kernel
theorem dX7_sheet_15 : decode cX7_sheet 15 = .ok (.iconst 1, 1) := by decide +kernel
theorem dX7_sheet_16 : decode cX7_sheet 16 = .ok (.invokevirtual 54, 3) := by decide +kernel
theorem dX7_sheet_19 : decode cX7_sheet 19 = .ok (.ireturn, 1) := by decide +kernel
theorem dX7_sheet_20 : decode cX7_sheet 20 = .ok (.iload_n 2, 1) := by decide +kernel
theorem dX7_sheet_21 : decode cX7_sheet 21 = .ok (.ifCond .eq 13, 3) := by decide +kernel
theorem dX7_sheet_24 : decode cX7_sheet 24 = .ok (.iload_n 3, 1) := by decide +kernel
theorem dX7_sheet_25 : decode cX7_sheet 25 = .ok (.ifCond .ge 9, 3) := by decide +kernel
theorem dX7_sheet_28 : decode cX7_sheet 28 = .ok (.aload_n 0, 1) := by decide +kernel
theorem dX7_sheet_29 : decode cX7_sheet 29 = .ok (.iconst 3, 1) := by decide +kernel
theorem dX7_sheet_30 : decode cX7_sheet 30 = .ok (.invokevirtual 54, 3) := by decide +kernel
theorem dX7_sheet_33 : decode cX7_sheet 33 = .ok (.ireturn, 1) := by decide +kernel
theorem dX7_sheet_34 : decode cX7_sheet 34 = .ok (.iload_n 2, 1) := by decide +kernel
theorem dX7_sheet_35 : decode cX7_sheet 35 = .ok (.ifCond .eq 15, 3) := by decide +kernel
theorem dX7_sheet_38 : decode cX7_sheet 38 = .ok (.iload_n 3, 1) := by decide +kernel
theorem dX7_sheet_39 : decode cX7_sheet 39 = .ok (.bipush 24, 2) := by decide +kernel
theorem dX7_sheet_41 : decode cX7_sheet 41 = .ok (.if_icmp .le 9, 3) := by decide +kernel
theorem dX7_sheet_44 : decode cX7_sheet 44 = .ok (.aload_n 0, 1) := by decide +kernel
theorem dX7_sheet_45 : decode cX7_sheet 45 = .ok (.iconst 1, 1) := by decide +kernel
theorem dX7_sheet_46 : decode cX7_sheet 46 = .ok (.invokevirtual 54, 3) := by decide +kernel
theorem dX7_sheet_49 : decode cX7_sheet 49 = .ok (.ireturn, 1) := by decide +kernel
theorem dX7_sheet_50 : decode cX7_sheet 50 = .ok (.aload_n 0, 1) := by decide +kernel
theorem dX7_sheet_51 : decode cX7_sheet 51 = .ok (.getfield 38, 3) := by decide +kernel
theorem dX7_sheet_54 : decode cX7_sheet 54 = .ok (.iload_n 1, 1) := by decide +kernel
theorem dX7_sheet_55 : decode cX7_sheet 55 = .ok (.aaload, 1) := by decide +kernel
theorem dX7_sheet_56 : decode cX7_sheet 56 = .ok (.iload_n 2, 1) := by decide +kernel
theorem dX7_sheet_57 : decode cX7_sheet 57 = .ok (.iload_n 2, 1) := by decide +kernel
theorem dX7_sheet_58 : decode cX7_sheet 58 = .ok (.ifCond .ne 7, 3) := by decide +kernel
theorem dX7_sheet_61 : decode cX7_sheet 61 = .ok (.iconst 0, 1) := by decide +kernel
theorem dX7_sheet_62 : decode cX7_sheet 62 = .ok (.goto 4, 3) := by decide +kernel
theorem dX7_sheet_65 : decode cX7_sheet 65 = .ok (.iload_n 3, 1) := by decide +kernel
theorem dX7_sheet_66 : decode cX7_sheet 66 = .ok (.invokevirtual 262, 3) := by decide +kernel
theorem dX7_sheet_69 : decode cX7_sheet 69 = .ok (.iconst 1, 1) := by decide +kernel
theorem dX7_sheet_70 : decode cX7_sheet 70 = .ok (.ireturn, 1) := by decide +kernel
theorem dX7_put_0 : decode cX7_put 0 = .ok (.iload_n 1, 1) := by decide +kernel
theorem dX7_put_1 : decode cX7_put 1 = .ok (.invokestatic 235, 3) := by decide +kernel
theorem dX7_put_4 : decode cX7_put 4 = .ok (.ifCond .ne 9, 3) := by decide +kernel
theorem dX7_put_7 : decode cX7_put 7 = .ok (.aload_n 0, 1) := by decide +kernel
theorem dX7_put_8 : decode cX7_put 8 = .ok (.iconst 1, 1) := by decide +kernel
theorem dX7_put_9 : decode cX7_put 9 = .ok (.invokevirtual 54, 3) := by decide +kernel
theorem dX7_put_12 : decode cX7_put 12 = .ok (.ireturn, 1) := by decide +kernel
theorem dX7_put_13 : decode cX7_put 13 = .ok (.aload_n 0, 1) := by decide +kernel
theorem dX7_put_14 : decode cX7_put 14 = .ok (.getfield 38, 3) := by decide +kernel
theorem dX7_put_17 : decode cX7_put 17 = .ok (.iload_n 1, 1) := by decide +kernel
theorem dX7_put_18 : decode cX7_put 18 = .ok (.aaload, 1) := by decide +kernel
theorem dX7_put_19 : decode cX7_put 19 = .ok (.astore 4, 2) := by decide +kernel
theorem dX7_put_21 : decode cX7_put 21 = .ok (.aload 4, 2) := by decide +kernel
theorem dX7_put_23 : decode cX7_put 23 = .ok (.getfield 238, 3) := by decide +kernel
theorem dX7_put_26 : decode cX7_put 26 = .ok (.ifCond .ne 9, 3) := by decide +kernel
theorem dX7_put_29 : decode cX7_put 29 = .ok (.aload_n 0, 1) := by decide +kernel
theorem dX7_put_30 : decode cX7_put 30 = .ok (.iconst 2, 1) := by decide +kernel
theorem dX7_put_31 : decode cX7_put 31 = .ok (.invokevirtual 54, 3) := by decide +kernel
theorem dX7_put_34 : decode cX7_put 34 = .ok (.ireturn, 1) := by decide +kernel
theorem dX7_put_35 : decode cX7_put 35 = .ok (.iload_n 2, 1) := by decide +kernel
theorem dX7_put_36 : decode cX7_put 36 = .ok (.ifCond .lt 12, 3) := by decide +kernel
theorem dX7_put_39 : decode cX7_put 39 = .ok (.iload_n 2, 1) := by decide +kernel
theorem dX7_put_40 : decode cX7_put 40 = .ok (.aload 4, 2) := by decide +kernel
theorem dX7_put_42 : decode cX7_put 42 = .ok (.getfield 263, 3) := by decide +kernel
theorem dX7_put_45 : decode cX7_put 45 = .ok (.if_icmp .lt 9, 3) := by decide +kernel
theorem dX7_put_48 : decode cX7_put 48 = .ok (.aload_n 0, 1) := by decide +kernel
theorem dX7_put_49 : decode cX7_put 49 = .ok (.iconst 1, 1) := by decide +kernel
theorem dX7_put_50 : decode cX7_put 50 = .ok (.invokevirtual 54, 3) := by decide +kernel
theorem dX7_put_53 : decode cX7_put 53 = .ok (.ireturn, 1) := by decide +kernel
theorem dX7_put_54 : decode cX7_put 54 = .ok (.aload 4, 2) := by decide +kernel
theorem dX7_put_56 : decode cX7_put 56 = .ok (.getfield 266, 3) := by decide +kernel
theorem dX7_put_59 : decode cX7_put 59 = .ok (.iload_n 2, 1) := by decide +kernel
theorem dX7_put_60 : decode cX7_put 60 = .ok (.aload 4, 2) := by decide +kernel
theorem dX7_put_62 : decode cX7_put 62 = .ok (.iload_n 3, 1) := by decide +kernel
theorem dX7_put_63 : decode cX7_put 63 = .ok (.invokevirtual 269, 3) := by decide +kernel
theorem dX7_put_66 : decode cX7_put 66 = .ok (.iastore, 1) := by decide +kernel
theorem dX7_put_67 : decode cX7_put 67 = .ok (.iconst 1, 1) := by decide +kernel
theorem dX7_put_68 : decode cX7_put 68 = .ok (.ireturn, 1) := by decide +kernel
theorem dX7_move_0 : decode cX7_move 0 = .ok (.iload_n 1, 1) := by decide +kernel
theorem dX7_move_1 : decode cX7_move 1 = .ok (.invokestatic 235, 3) := by decide +kernel
theorem dX7_move_4 : decode cX7_move 4 = .ok (.ifCond .eq 10, 3) := by decide +kernel
theorem dX7_move_7 : decode cX7_move 7 = .ok (.iload_n 3, 1) := by decide +kernel
theorem dX7_move_8 : decode cX7_move 8 = .ok (.invokestatic 235, 3) := by decide +kernel
theorem dX7_move_11 : decode cX7_move 11 = .ok (.ifCond .ne 9, 3) := by decide +kernel
theorem dX7_move_14 : decode cX7_move 14 = .ok (.aload_n 0, 1) := by decide +kernel
theorem dX7_move_15 : decode cX7_move 15 = .ok (.iconst 1, 1) := by decide +kernel
theorem dX7_move_16 : decode cX7_move 16 = .ok (.invokevirtual 54, 3) := by decide +kernel
theorem dX7_move_19 : decode cX7_move 19 = .ok (.ireturn, 1) := by decide +kernel
theorem dX7_move_20 : decode cX7_move 20 = .ok (.aload_n 0, 1) := by decide +kernel
theorem dX7_move_21 : decode cX7_move 21 = .ok (.getfield 38, 3) := by decide +kernel
theorem dX7_move_24 : decode cX7_move 24 = .ok (.iload_n 1, 1) := by decide +kernel
theorem dX7_move_25 : decode cX7_move 25 = .ok (.aaload, 1) := by decide +kernel
theorem dX7_move_26 : decode cX7_move 26 = .ok (.astore 6, 2) := by decide +kernel
theorem dX7_move_28 : decode cX7_move 28 = .ok (.aload_n 0, 1) := by decide +kernel
theorem dX7_move_29 : decode cX7_move 29 = .ok (.getfield 38, 3) := by decide +kernel
theorem dX7_move_32 : decode cX7_move 32 = .ok (.iload_n 3, 1) := by decide +kernel
theorem dX7_move_33 : decode cX7_move 33 = .ok (.aaload, 1) := by decide +kernel
theorem dX7_move_34 : decode cX7_move 34 = .ok (.astore 7, 2) := by decide +kernel
theorem dX7_move_36 : decode cX7_move 36 = .ok (.aload 6, 2) := by decide +kernel
theorem dX7_move_38 : decode cX7_move 38 = .ok (.getfield 238, 3) := by decide +kernel
theorem dX7_move_41 : decode cX7_move 41 = .ok (.ifCond .eq 11, 3) := by decide +kernel
theorem dX7_move_44 : decode cX7_move 44 = .ok (.aload 7, 2) := by decide +kernel
theorem dX7_move_46 : decode cX7_move 46 = .ok (.getfield 238, 3) := by decide +kernel
theorem dX7_move_49 : decode cX7_move 49 = .ok (.ifCond .ne 9, 3) := by decide +kernel
theorem dX7_move_52 : decode cX7_move 52 = .ok (.aload_n 0, 1) := by decide +kernel
theorem dX7_move_53 : decode cX7_move 53 = .ok (.iconst 2, 1) := by decide +kernel
theorem dX7_move_54 : decode cX7_move 54 = .ok (.invokevirtual 54, 3) := by decide +kernel
theorem dX7_move_57 : decode cX7_move 57 = .ok (.ireturn, 1) := by decide +kernel
theorem dX7_move_58 : decode cX7_move 58 = .ok (.aload 6, 2) := by decide +kernel
theorem dX7_move_60 : decode cX7_move 60 = .ok (.getfield 238, 3) := by decide +kernel
theorem dX7_move_63 : decode cX7_move 63 = .ok (.aload 7, 2) := by decide +kernel
theorem dX7_move_65 : decode cX7_move 65 = .ok (.getfield 238, 3) := by decide +kernel
theorem dX7_move_68 : decode cX7_move 68 = .ok (.if_icmp .eq 9, 3) := by decide +kernel
theorem dX7_move_71 : decode cX7_move 71 = .ok (.aload_n 0, 1) := by decide +kernel
theorem dX7_move_72 : decode cX7_move 72 = .ok (.iconst 5, 1) := by decide +kernel
theorem dX7_move_73 : decode cX7_move 73 = .ok (.invokevirtual 54, 3) := by decide +kernel
theorem dX7_move_76 : decode cX7_move 76 = .ok (.ireturn, 1) := by decide +kernel
theorem dX7_move_77 : decode cX7_move 77 = .ok (.aload 6, 2) := by decide +kernel
theorem dX7_move_79 : decode cX7_move 79 = .ok (.iload_n 2, 1) := by decide +kernel
theorem dX7_move_80 : decode cX7_move 80 = .ok (.iload 5, 2) := by decide +kernel
theorem dX7_move_82 : decode cX7_move 82 = .ok (.invokevirtual 272, 3) := by decide +kernel
theorem dX7_move_85 : decode cX7_move 85 = .ok (.ifCond .eq 15, 3) := by decide +kernel
theorem dX7_move_88 : decode cX7_move 88 = .ok (.aload 7, 2) := by decide +kernel
theorem dX7_move_90 : decode cX7_move 90 = .ok (.iload 4, 2) := by decide +kernel
theorem dX7_move_92 : decode cX7_move 92 = .ok (.iload 5, 2) := by decide +kernel
theorem dX7_move_94 : decode cX7_move 94 = .ok (.invokevirtual 272, 3) := by decide +kernel
theorem dX7_move_97 : decode cX7_move 97 = .ok (.ifCond .ne 9, 3) := by decide +kernel
theorem dX7_move_100 : decode cX7_move 100 = .ok (.aload_n 0, 1) := by decide +kernel
theorem dX7_move_101 : decode cX7_move 101 = .ok (.iconst 1, 1) := by decide +kernel
theorem dX7_move_102 : decode cX7_move 102 = .ok (.invokevirtual 54, 3) := by decide +kernel
theorem dX7_move_105 : decode cX7_move 105 = .ok (.ireturn, 1) := by decide +kernel
theorem dX7_move_106 : decode cX7_move 106 = .ok (.aload 6, 2) := by decide +kernel
theorem dX7_move_108 : decode cX7_move 108 = .ok (.getfield 266, 3) := by decide +kernel
theorem dX7_move_111 : decode cX7_move 111 = .ok (.iload_n 2, 1) := by decide +kernel
theorem dX7_move_112 : decode cX7_move 112 = .ok (.aload 7, 2) := by decide +kernel
theorem dX7_move_114 : decode cX7_move 114 = .ok (.getfield 266, 3) := by decide +kernel
theorem dX7_move_117 : decode cX7_move 117 = .ok (.iload 4, 2) := by decide +kernel
theorem dX7_move_119 : decode cX7_move 119 = .ok (.iload 5, 2) := by decide +kernel
theorem dX7_move_121 : decode cX7_move 121 = .ok (.invokestatic 275, 3) := by decide +kernel
theorem dX7_move_124 : decode cX7_move 124 = .ok (.iload 5, 2) := by decide +kernel
theorem dX7_move_126 : decode cX7_move 126 = .ok (.ireturn, 1) := by decide +kernel
theorem dX7_sets_0 : decode cX7_sets 0 = .ok (.aload_n 0, 1) := by decide +kernel
theorem dX7_sets_1 : decode cX7_sets 1 = .ok (.iload_n 1, 1) := by decide +kernel
theorem dX7_sets_2 : decode cX7_sets 2 = .ok (.invokevirtual 72, 3) := by decide +kernel
theorem dX7_sets_5 : decode cX7_sets 5 = .ok (.ifCond .eq 10, 3) := by decide +kernel
theorem dX7_sets_8 : decode cX7_sets 8 = .ok (.iload_n 2, 1) := by decide +kernel
theorem dX7_sets_9 : decode cX7_sets 9 = .ok (.invokestatic 235, 3) := by decide +kernel
theorem dX7_sets_12 : decode cX7_sets 12 = .ok (.ifCond .ne 9, 3) := by decide +kernel
theorem dX7_sets_15 : decode cX7_sets 15 = .ok (.aload_n 0, 1) := by decide +kernel
theorem dX7_sets_16 : decode cX7_sets 16 = .ok (.iconst 1, 1) := by decide +kernel
theorem dX7_sets_17 : decode cX7_sets 17 = .ok (.invokevirtual 54, 3) := by decide +kernel
theorem dX7_sets_20 : decode cX7_sets 20 = .ok (.ireturn, 1) := by decide +kernel
theorem dX7_sets_21 : decode cX7_sets 21 = .ok (.aload_n 0, 1) := by decide +kernel
theorem dX7_sets_22 : decode cX7_sets 22 = .ok (.getfield 38, 3) := by decide +kernel
theorem dX7_sets_25 : decode cX7_sets 25 = .ok (.iload_n 2, 1) := by decide +kernel
theorem dX7_sets_26 : decode cX7_sets 26 = .ok (.aaload, 1) := by decide +kernel
theorem dX7_sets_27 : decode cX7_sets 27 = .ok (.astore_n 3, 1) := by decide +kernel
theorem dX7_sets_28 : decode cX7_sets 28 = .ok (.aload_n 3, 1) := by decide +kernel
theorem dX7_sets_29 : decode cX7_sets 29 = .ok (.getfield 238, 3) := by decide +kernel
theorem dX7_sets_32 : decode cX7_sets 32 = .ok (.ifCond .ne 9, 3) := by decide +kernel
theorem dX7_sets_35 : decode cX7_sets 35 = .ok (.aload_n 0, 1) := by decide +kernel
theorem dX7_sets_36 : decode cX7_sets 36 = .ok (.iconst 2, 1) := by decide +kernel
theorem dX7_sets_37 : decode cX7_sets 37 = .ok (.invokevirtual 54, 3) := by decide +kernel
theorem dX7_sets_40 : decode cX7_sets 40 = .ok (.ireturn, 1) := by decide +kernel
theorem dX7_sets_41 : decode cX7_sets 41 = .ok (.aload_n 0, 1) := by decide +kernel
theorem dX7_sets_42 : decode cX7_sets 42 = .ok (.getfield 10, 3) := by decide +kernel
theorem dX7_sets_45 : decode cX7_sets 45 = .ok (.getfield 62, 3) := by decide +kernel
theorem dX7_sets_48 : decode cX7_sets 48 = .ok (.iload_n 1, 1) := by decide +kernel
theorem dX7_sets_49 : decode cX7_sets 49 = .ok (.aaload, 1) := by decide +kernel
theorem dX7_sets_50 : decode cX7_sets 50 = .ok (.aload_n 3, 1) := by decide +kernel
theorem dX7_sets_51 : decode cX7_sets 51 = .ok (.getfield 266, 3) := by decide +kernel
theorem dX7_sets_54 : decode cX7_sets 54 = .ok (.aload_n 3, 1) := by decide +kernel
theorem dX7_sets_55 : decode cX7_sets 55 = .ok (.getfield 263, 3) := by decide +kernel
theorem dX7_sets_58 : decode cX7_sets 58 = .ok (.invokevirtual 281, 3) := by decide +kernel
theorem dX7_sets_61 : decode cX7_sets 61 = .ok (.aload_n 0, 1) := by decide +kernel
theorem dX7_sets_62 : decode cX7_sets 62 = .ok (.getfield 10, 3) := by decide +kernel
theorem dX7_sets_65 : decode cX7_sets 65 = .ok (.getfield 62, 3) := by decide +kernel
theorem dX7_sets_68 : decode cX7_sets 68 = .ok (.iload_n 1, 1) := by decide +kernel
theorem dX7_sets_69 : decode cX7_sets 69 = .ok (.aaload, 1) := by decide +kernel
theorem dX7_sets_70 : decode cX7_sets 70 = .ok (.getfield 80, 3) := by decide +kernel
theorem dX7_sets_73 : decode cX7_sets 73 = .ok (.ireturn, 1) := by decide +kernel
theorem dX7_judge_0 : decode cX7_judge 0 = .ok (.iload_n 1, 1) := by decide +kernel
theorem dX7_judge_1 : decode cX7_judge 1 = .ok (.invokestatic 235, 3) := by decide +kernel
theorem dX7_judge_4 : decode cX7_judge 4 = .ok (.ifCond .ne 9, 3) := by decide +kernel
theorem dX7_judge_7 : decode cX7_judge 7 = .ok (.aload_n 0, 1) := by decide +kernel
theorem dX7_judge_8 : decode cX7_judge 8 = .ok (.iconst 1, 1) := by decide +kernel
theorem dX7_judge_9 : decode cX7_judge 9 = .ok (.invokevirtual 54, 3) := by decide +kernel
theorem dX7_judge_12 : decode cX7_judge 12 = .ok (.ireturn, 1) := by decide +kernel
theorem dX7_judge_13 : decode cX7_judge 13 = .ok (.aload_n 0, 1) := by decide +kernel
theorem dX7_judge_14 : decode cX7_judge 14 = .ok (.getfield 38, 3) := by decide +kernel
theorem dX7_judge_17 : decode cX7_judge 17 = .ok (.iload_n 1, 1) := by decide +kernel
theorem dX7_judge_18 : decode cX7_judge 18 = .ok (.aaload, 1) := by decide +kernel
theorem dX7_judge_19 : decode cX7_judge 19 = .ok (.astore_n 2, 1) := by decide +kernel
theorem dX7_judge_20 : decode cX7_judge 20 = .ok (.aload_n 2, 1) := by decide +kernel
theorem dX7_judge_21 : decode cX7_judge 21 = .ok (.getfield 238, 3) := by decide +kernel
theorem dX7_judge_24 : decode cX7_judge 24 = .ok (.ifCond .ne 9, 3) := by decide +kernel
theorem dX7_judge_27 : decode cX7_judge 27 = .ok (.aload_n 0, 1) := by decide +kernel
theorem dX7_judge_28 : decode cX7_judge 28 = .ok (.iconst 2, 1) := by decide +kernel
theorem dX7_judge_29 : decode cX7_judge 29 = .ok (.invokevirtual 54, 3) := by decide +kernel
theorem dX7_judge_32 : decode cX7_judge 32 = .ok (.ireturn, 1) := by decide +kernel
theorem dX7_judge_33 : decode cX7_judge 33 = .ok (.aload_n 0, 1) := by decide +kernel
theorem dX7_judge_34 : decode cX7_judge 34 = .ok (.getfield 10, 3) := by decide +kernel
theorem dX7_judge_37 : decode cX7_judge 37 = .ok (.invokevirtual 155, 3) := by decide +kernel
theorem dX7_judge_40 : decode cX7_judge 40 = .ok (.iconst 0, 1) := by decide +kernel
theorem dX7_judge_41 : decode cX7_judge 41 = .ok (.istore_n 3, 1) := by decide +kernel
theorem dX7_judge_42 : decode cX7_judge 42 = .ok (.iload_n 3, 1) := by decide +kernel
theorem dX7_judge_43 : decode cX7_judge 43 = .ok (.aload_n 2, 1) := by decide +kernel
theorem dX7_judge_44 : decode cX7_judge 44 = .ok (.getfield 263, 3) := by decide +kernel
theorem dX7_judge_47 : decode cX7_judge 47 = .ok (.if_icmp .ge 45, 3) := by decide +kernel
theorem dX7_judge_50 : decode cX7_judge 50 = .ok (.iload_n 3, 1) := by decide +kernel
theorem dX7_judge_51 : decode cX7_judge 51 = .ok (.aload_n 0, 1) := by decide +kernel
theorem dX7_judge_52 : decode cX7_judge 52 = .ok (.getfield 10, 3) := by decide +kernel
theorem dX7_judge_55 : decode cX7_judge 55 = .ok (.getfield 143, 3) := by decide +kernel
theorem dX7_judge_58 : decode cX7_judge 58 = .ok (.if_icmp .ge 34, 3) := by decide +kernel
theorem dX7_judge_61 : decode cX7_judge 61 = .ok (.aload_n 2, 1) := by decide +kernel
theorem dX7_judge_62 : decode cX7_judge 62 = .ok (.getfield 266, 3) := by decide +kernel
theorem dX7_judge_65 : decode cX7_judge 65 = .ok (.iload_n 3, 1) := by decide +kernel
theorem dX7_judge_66 : decode cX7_judge 66 = .ok (.iaload, 1) := by decide +kernel
theorem dX7_judge_67 : decode cX7_judge 67 = .ok (.aload_n 0, 1) := by decide +kernel
theorem dX7_judge_68 : decode cX7_judge 68 = .ok (.getfield 10, 3) := by decide +kernel
theorem dX7_judge_71 : decode cX7_judge 71 = .ok (.aload_n 0, 1) := by decide +kernel
theorem dX7_judge_72 : decode cX7_judge 72 = .ok (.getfield 10, 3) := by decide +kernel
theorem dX7_judge_75 : decode cX7_judge 75 = .ok (.getfield 146, 3) := by decide +kernel
theorem dX7_judge_78 : decode cX7_judge 78 = .ok (.iload_n 3, 1) := by decide +kernel
theorem dX7_judge_79 : decode cX7_judge 79 = .ok (.iaload, 1) := by decide +kernel
theorem dX7_judge_80 : decode cX7_judge 80 = .ok (.invokevirtual 158, 3) := by decide +kernel
theorem dX7_judge_83 : decode cX7_judge 83 = .ok (.if_icmp .ne 9, 3) := by decide +kernel
theorem dX7_judge_86 : decode cX7_judge 86 = .ok (.iinc 3 1, 3) := by decide +kernel
theorem dX7_judge_89 : decode cX7_judge 89 = .ok (.goto (-47), 3) := by decide +kernel
theorem dX7_judge_92 : decode cX7_judge 92 = .ok (.iload_n 3, 1) := by decide +kernel
theorem dX7_judge_93 : decode cX7_judge 93 = .ok (.ireturn, 1) := by decide +kernel
theorem dX7_image_0 : decode cX7_image 0 = .ok (.aload_n 0, 1) := by decide +kernel
theorem dX7_image_1 : decode cX7_image 1 = .ok (.getfield 16, 3) := by decide +kernel
theorem dX7_image_4 : decode cX7_image 4 = .ok (.aload_n 0, 1) := by decide +kernel
theorem dX7_image_5 : decode cX7_image 5 = .ok (.getfield 10, 3) := by decide +kernel
theorem dX7_image_8 : decode cX7_image 8 = .ok (.invokevirtual 213, 3) := by decide +kernel
theorem dX7_image_11 : decode cX7_image 11 = .ok (.aload_n 0, 1) := by decide +kernel
theorem dX7_image_12 : decode cX7_image 12 = .ok (.dup, 1) := by decide +kernel
theorem dX7_image_13 : decode cX7_image 13 = .ok (.getfield 284, 3) := by decide +kernel
theorem dX7_image_16 : decode cX7_image 16 = .ok (.iconst 1, 1) := by decide +kernel
theorem dX7_image_17 : decode cX7_image 17 = .ok (.iadd, 1) := by decide +kernel
theorem dX7_image_18 : decode cX7_image 18 = .ok (.putfield 284, 3) := by decide +kernel
theorem dX7_image_21 : decode cX7_image 21 = .ok (.aload_n 0, 1) := by decide +kernel
theorem dX7_image_22 : decode cX7_image 22 = .ok (.getfield 284, 3) := by decide +kernel
theorem dX7_image_25 : decode cX7_image 25 = .ok (.ireturn, 1) := by decide +kernel
theorem dX7_restore_0 : decode cX7_restore 0 = .ok (.aload_n 0, 1) := by decide +kernel
theorem dX7_restore_1 : decode cX7_restore 1 = .ok (.getfield 284, 3) := by decide +kernel
theorem dX7_restore_4 : decode cX7_restore 4 = .ok (.ifCond .ne 9, 3) := by decide +kernel
theorem dX7_restore_7 : decode cX7_restore 7 = .ok (.aload_n 0, 1) := by decide +kernel
theorem dX7_restore_8 : decode cX7_restore 8 = .ok (.iconst 2, 1) := by decide +kernel
theorem dX7_restore_9 : decode cX7_restore 9 = .ok (.invokevirtual 54, 3) := by decide +kernel
theorem dX7_restore_12 : decode cX7_restore 12 = .ok (.ireturn, 1) := by decide +kernel
theorem dX7_restore_13 : decode cX7_restore 13 = .ok (.aload_n 0, 1) := by decide +kernel
theorem dX7_restore_14 : decode cX7_restore 14 = .ok (.getfield 10, 3) := by decide +kernel
theorem dX7_restore_17 : decode cX7_restore 17 = .ok (.aload_n 0, 1) := by decide +kernel
theorem dX7_restore_18 : decode cX7_restore 18 = .ok (.getfield 16, 3) := by decide +kernel
theorem dX7_restore_21 : decode cX7_restore 21 = .ok (.invokevirtual 213, 3) := by decide +kernel
theorem dX7_restore_24 : decode cX7_restore 24 = .ok (.aload_n 0, 1) := by decide +kernel
theorem dX7_restore_25 : decode cX7_restore 25 = .ok (.getfield 10, 3) := by decide +kernel
theorem dX7_restore_28 : decode cX7_restore 28 = .ok (.getfield 116, 3) := by decide +kernel
theorem dX7_restore_31 : decode cX7_restore 31 = .ok (.ireturn, 1) := by decide +kernel
theorem dX7_tell_0 : decode cX7_tell 0 = .ok (.aload_n 0, 1) := by decide +kernel
theorem dX7_tell_1 : decode cX7_tell 1 = .ok (.getfield 10, 3) := by decide +kernel
theorem dX7_tell_4 : decode cX7_tell 4 = .ok (.getfield 287, 3) := by decide +kernel
theorem dX7_tell_7 : decode cX7_tell 7 = .ok (.bipush 24, 2) := by decide +kernel
theorem dX7_tell_9 : decode cX7_tell 9 = .ok (.if_icmp .lt 9, 3) := by decide +kernel
theorem dX7_tell_12 : decode cX7_tell 12 = .ok (.aload_n 0, 1) := by decide +kernel
theorem dX7_tell_13 : decode cX7_tell 13 = .ok (.iconst 4, 1) := by decide +kernel
theorem dX7_tell_14 : decode cX7_tell 14 = .ok (.invokevirtual 54, 3) := by decide +kernel
theorem dX7_tell_17 : decode cX7_tell 17 = .ok (.ireturn, 1) := by decide +kernel
theorem dX7_tell_18 : decode cX7_tell 18 = .ok (.aload_n 0, 1) := by decide +kernel
theorem dX7_tell_19 : decode cX7_tell 19 = .ok (.getfield 10, 3) := by decide +kernel
theorem dX7_tell_22 : decode cX7_tell 22 = .ok (.getfield 290, 3) := by decide +kernel
theorem dX7_tell_25 : decode cX7_tell 25 = .ok (.aload_n 0, 1) := by decide +kernel
theorem dX7_tell_26 : decode cX7_tell 26 = .ok (.getfield 10, 3) := by decide +kernel
theorem dX7_tell_29 : decode cX7_tell 29 = .ok (.getfield 287, 3) := by decide +kernel
theorem dX7_tell_32 : decode cX7_tell 32 = .ok (.iload_n 1, 1) := by decide +kernel
theorem dX7_tell_33 : decode cX7_tell 33 = .ok (.iastore, 1) := by decide +kernel
theorem dX7_tell_34 : decode cX7_tell 34 = .ok (.aload_n 0, 1) := by decide +kernel
theorem dX7_tell_35 : decode cX7_tell 35 = .ok (.getfield 10, 3) := by decide +kernel
theorem dX7_tell_38 : decode cX7_tell 38 = .ok (.dup, 1) := by decide +kernel
theorem dX7_tell_39 : decode cX7_tell 39 = .ok (.getfield 287, 3) := by decide +kernel
theorem dX7_tell_42 : decode cX7_tell 42 = .ok (.iconst 1, 1) := by decide +kernel
theorem dX7_tell_43 : decode cX7_tell 43 = .ok (.iadd, 1) := by decide +kernel
theorem dX7_tell_44 : decode cX7_tell 44 = .ok (.putfield 287, 3) := by decide +kernel
theorem dX7_tell_47 : decode cX7_tell 47 = .ok (.aload_n 0, 1) := by decide +kernel
theorem dX7_tell_48 : decode cX7_tell 48 = .ok (.getfield 10, 3) := by decide +kernel
theorem dX7_tell_51 : decode cX7_tell 51 = .ok (.getfield 287, 3) := by decide +kernel
theorem dX7_tell_54 : decode cX7_tell 54 = .ok (.ireturn, 1) := by decide +kernel
theorem dX7_check_0 : decode cX7_check 0 = .ok (.iconst 0, 1) := by decide +kernel
theorem dX7_check_1 : decode cX7_check 1 = .ok (.istore_n 1, 1) := by decide +kernel
theorem dX7_check_2 : decode cX7_check 2 = .ok (.iload_n 1, 1) := by decide +kernel
theorem dX7_check_3 : decode cX7_check 3 = .ok (.aload_n 0, 1) := by decide +kernel
theorem dX7_check_4 : decode cX7_check 4 = .ok (.getfield 10, 3) := by decide +kernel
theorem dX7_check_7 : decode cX7_check 7 = .ok (.getfield 287, 3) := by decide +kernel
theorem dX7_check_10 : decode cX7_check 10 = .ok (.if_icmp .ge 44, 3) := by decide +kernel
theorem dX7_check_13 : decode cX7_check 13 = .ok (.iload_n 1, 1) := by decide +kernel
theorem dX7_check_14 : decode cX7_check 14 = .ok (.aload_n 0, 1) := by decide +kernel
theorem dX7_check_15 : decode cX7_check 15 = .ok (.getfield 10, 3) := by decide +kernel
theorem dX7_check_18 : decode cX7_check 18 = .ok (.getfield 58, 3) := by decide +kernel
theorem dX7_check_21 : decode cX7_check 21 = .ok (.if_icmp .ge 33, 3) := by decide +kernel
theorem dX7_check_24 : decode cX7_check 24 = .ok (.aload_n 0, 1) := by decide +kernel
theorem dX7_check_25 : decode cX7_check 25 = .ok (.getfield 10, 3) := by decide +kernel
theorem dX7_check_28 : decode cX7_check 28 = .ok (.getfield 290, 3) := by decide +kernel
theorem dX7_check_31 : decode cX7_check 31 = .ok (.iload_n 1, 1) := by decide +kernel
theorem dX7_check_32 : decode cX7_check 32 = .ok (.iaload, 1) := by decide +kernel
theorem dX7_check_33 : decode cX7_check 33 = .ok (.aload_n 0, 1) := by decide +kernel
theorem dX7_check_34 : decode cX7_check 34 = .ok (.getfield 10, 3) := by decide +kernel
theorem dX7_check_37 : decode cX7_check 37 = .ok (.getfield 62, 3) := by decide +kernel
theorem dX7_check_40 : decode cX7_check 40 = .ok (.iload_n 1, 1) := by decide +kernel
theorem dX7_check_41 : decode cX7_check 41 = .ok (.aaload, 1) := by decide +kernel
theorem dX7_check_42 : decode cX7_check 42 = .ok (.getfield 95, 3) := by decide +kernel
theorem dX7_check_45 : decode cX7_check 45 = .ok (.if_icmp .ne 9, 3) := by decide +kernel
theorem dX7_check_48 : decode cX7_check 48 = .ok (.iinc 1 1, 3) := by decide +kernel
theorem dX7_check_51 : decode cX7_check 51 = .ok (.goto (-49), 3) := by decide +kernel
theorem dX7_check_54 : decode cX7_check 54 = .ok (.iload_n 1, 1) := by decide +kernel
theorem dX7_check_55 : decode cX7_check 55 = .ok (.aload_n 0, 1) := by decide +kernel
theorem dX7_check_56 : decode cX7_check 56 = .ok (.getfield 10, 3) := by decide +kernel
theorem dX7_check_59 : decode cX7_check 59 = .ok (.getfield 287, 3) := by decide +kernel
theorem dX7_check_62 : decode cX7_check 62 = .ok (.if_icmp .ne 7, 3) := by decide +kernel
theorem dX7_check_65 : decode cX7_check 65 = .ok (.iconst 1, 1) := by decide +kernel
theorem dX7_check_66 : decode cX7_check 66 = .ok (.goto 4, 3) := by decide +kernel
theorem dX7_check_69 : decode cX7_check 69 = .ok (.iconst 0, 1) := by decide +kernel
theorem dX7_check_70 : decode cX7_check 70 = .ok (.istore_n 2, 1) := by decide +kernel
theorem dX7_check_71 : decode cX7_check 71 = .ok (.aload_n 0, 1) := by decide +kernel
theorem dX7_check_72 : decode cX7_check 72 = .ok (.getfield 10, 3) := by decide +kernel
theorem dX7_check_75 : decode cX7_check 75 = .ok (.iconst 0, 1) := by decide +kernel
theorem dX7_check_76 : decode cX7_check 76 = .ok (.putfield 287, 3) := by decide +kernel
theorem dX7_check_79 : decode cX7_check 79 = .ok (.iload_n 2, 1) := by decide +kernel
theorem dX7_check_80 : decode cX7_check 80 = .ok (.ifCond .eq 7, 3) := by decide +kernel
theorem dX7_check_83 : decode cX7_check 83 = .ok (.iconst 0, 1) := by decide +kernel
theorem dX7_check_84 : decode cX7_check 84 = .ok (.goto 6, 3) := by decide +kernel
theorem dX7_check_87 : decode cX7_check 87 = .ok (.iload_n 1, 1) := by decide +kernel
theorem dX7_check_88 : decode cX7_check 88 = .ok (.iconst 1, 1) := by decide +kernel
theorem dX7_check_89 : decode cX7_check 89 = .ok (.iadd, 1) := by decide +kernel
theorem dX7_check_90 : decode cX7_check 90 = .ok (.ireturn, 1) := by decide +kernel
theorem dX7_count_0 : decode cX7_count 0 = .ok (.iload_n 1, 1) := by decide +kernel
theorem dX7_count_1 : decode cX7_count 1 = .ok (.tableswitch 129 0 8 #[51, 59, 67, 75, 86, 97, 105, 113, 121], 51) := by decide +kernel
theorem dX7_count_52 : decode cX7_count 52 = .ok (.aload_n 0, 1) := by decide +kernel
theorem dX7_count_53 : decode cX7_count 53 = .ok (.getfield 10, 3) := by decide +kernel
theorem dX7_count_56 : decode cX7_count 56 = .ok (.getfield 58, 3) := by decide +kernel
theorem dX7_count_59 : decode cX7_count 59 = .ok (.ireturn, 1) := by decide +kernel
theorem dX7_count_60 : decode cX7_count 60 = .ok (.aload_n 0, 1) := by decide +kernel
theorem dX7_count_61 : decode cX7_count 61 = .ok (.getfield 10, 3) := by decide +kernel
theorem dX7_count_64 : decode cX7_count 64 = .ok (.getfield 143, 3) := by decide +kernel
theorem dX7_count_67 : decode cX7_count 67 = .ok (.ireturn, 1) := by decide +kernel
theorem dX7_count_68 : decode cX7_count 68 = .ok (.aload_n 0, 1) := by decide +kernel
theorem dX7_count_69 : decode cX7_count 69 = .ok (.getfield 10, 3) := by decide +kernel
theorem dX7_count_72 : decode cX7_count 72 = .ok (.getfield 116, 3) := by decide +kernel
theorem dX7_count_75 : decode cX7_count 75 = .ok (.ireturn, 1) := by decide +kernel
theorem dX7_count_76 : decode cX7_count 76 = .ok (.aload_n 0, 1) := by decide +kernel
theorem dX7_count_77 : decode cX7_count 77 = .ok (.getfield 10, 3) := by decide +kernel
theorem dX7_count_80 : decode cX7_count 80 = .ok (.getfield 126, 3) := by decide +kernel
theorem dX7_count_83 : decode cX7_count 83 = .ok (.invokestatic 102, 3) := by decide +kernel
theorem dX7_count_86 : decode cX7_count 86 = .ok (.ireturn, 1) := by decide +kernel
theorem dX7_count_87 : decode cX7_count 87 = .ok (.aload_n 0, 1) := by decide +kernel
theorem dX7_count_88 : decode cX7_count 88 = .ok (.getfield 10, 3) := by decide +kernel
theorem dX7_count_91 : decode cX7_count 91 = .ok (.getfield 130, 3) := by decide +kernel
theorem dX7_count_94 : decode cX7_count 94 = .ok (.invokestatic 102, 3) := by decide +kernel
theorem dX7_count_97 : decode cX7_count 97 = .ok (.ireturn, 1) := by decide +kernel
theorem dX7_count_98 : decode cX7_count 98 = .ok (.aload_n 0, 1) := by decide +kernel
theorem dX7_count_99 : decode cX7_count 99 = .ok (.getfield 10, 3) := by decide +kernel
theorem dX7_count_102 : decode cX7_count 102 = .ok (.getfield 161, 3) := by decide +kernel
theorem dX7_count_105 : decode cX7_count 105 = .ok (.ireturn, 1) := by decide +kernel
theorem dX7_count_106 : decode cX7_count 106 = .ok (.aload_n 0, 1) := by decide +kernel
theorem dX7_count_107 : decode cX7_count 107 = .ok (.getfield 10, 3) := by decide +kernel
theorem dX7_count_110 : decode cX7_count 110 = .ok (.getfield 287, 3) := by decide +kernel
theorem dX7_count_113 : decode cX7_count 113 = .ok (.ireturn, 1) := by decide +kernel
theorem dX7_count_114 : decode cX7_count 114 = .ok (.aload_n 0, 1) := by decide +kernel
theorem dX7_count_115 : decode cX7_count 115 = .ok (.getfield 32, 3) := by decide +kernel
theorem dX7_count_118 : decode cX7_count 118 = .ok (.getfield 253, 3) := by decide +kernel
theorem dX7_count_121 : decode cX7_count 121 = .ok (.ireturn, 1) := by decide +kernel
theorem dX7_count_122 : decode cX7_count 122 = .ok (.aload_n 0, 1) := by decide +kernel
theorem dX7_count_123 : decode cX7_count 123 = .ok (.getfield 10, 3) := by decide +kernel
theorem dX7_count_126 : decode cX7_count 126 = .ok (.getfield 207, 3) := by decide +kernel
theorem dX7_count_129 : decode cX7_count 129 = .ok (.ireturn, 1) := by decide +kernel
theorem dX7_count_130 : decode cX7_count 130 = .ok (.aload_n 0, 1) := by decide +kernel
theorem dX7_count_131 : decode cX7_count 131 = .ok (.iconst 1, 1) := by decide +kernel
theorem dX7_count_132 : decode cX7_count 132 = .ok (.invokevirtual 54, 3) := by decide +kernel
theorem dX7_count_135 : decode cX7_count 135 = .ok (.ireturn, 1) := by decide +kernel
theorem dX7_told_0 : decode cX7_told 0 = .ok (.iload_n 1, 1) := by decide +kernel
theorem dX7_told_1 : decode cX7_told 1 = .ok (.iconst 1, 1) := by decide +kernel
theorem dX7_told_2 : decode cX7_told 2 = .ok (.if_icmp .lt 9, 3) := by decide +kernel
theorem dX7_told_5 : decode cX7_told 5 = .ok (.iload_n 1, 1) := by decide +kernel
theorem dX7_told_6 : decode cX7_told 6 = .ok (.bipush 6, 2) := by decide +kernel
theorem dX7_told_8 : decode cX7_told 8 = .ok (.if_icmp .le 9, 3) := by decide +kernel
theorem dX7_told_11 : decode cX7_told 11 = .ok (.aload_n 0, 1) := by decide +kernel
theorem dX7_told_12 : decode cX7_told 12 = .ok (.iconst 1, 1) := by decide +kernel
theorem dX7_told_13 : decode cX7_told 13 = .ok (.invokevirtual 54, 3) := by decide +kernel
theorem dX7_told_16 : decode cX7_told 16 = .ok (.ireturn, 1) := by decide +kernel
theorem dX7_told_17 : decode cX7_told 17 = .ok (.aload_n 0, 1) := by decide +kernel
theorem dX7_told_18 : decode cX7_told 18 = .ok (.getfield 42, 3) := by decide +kernel
theorem dX7_told_21 : decode cX7_told 21 = .ok (.iload_n 1, 1) := by decide +kernel
theorem dX7_told_22 : decode cX7_told 22 = .ok (.iaload, 1) := by decide +kernel
theorem dX7_told_23 : decode cX7_told 23 = .ok (.ireturn, 1) := by decide +kernel
theorem dX7_error_0 : decode cX7_error 0 = .ok (.iload_n 1, 1) := by decide +kernel
theorem dX7_error_1 : decode cX7_error 1 = .ok (.ifCond .lt 22, 3) := by decide +kernel
theorem dX7_error_4 : decode cX7_error 4 = .ok (.iload_n 1, 1) := by decide +kernel
theorem dX7_error_5 : decode cX7_error 5 = .ok (.aload_n 0, 1) := by decide +kernel
theorem dX7_error_6 : decode cX7_error 6 = .ok (.getfield 42, 3) := by decide +kernel
theorem dX7_error_9 : decode cX7_error 9 = .ok (.arraylength, 1) := by decide +kernel
theorem dX7_error_10 : decode cX7_error 10 = .ok (.if_icmp .ge 13, 3) := by decide +kernel
theorem dX7_error_13 : decode cX7_error 13 = .ok (.aload_n 0, 1) := by decide +kernel
theorem dX7_error_14 : decode cX7_error 14 = .ok (.getfield 42, 3) := by decide +kernel
theorem dX7_error_17 : decode cX7_error 17 = .ok (.iload_n 1, 1) := by decide +kernel
theorem dX7_error_18 : decode cX7_error 18 = .ok (.dup2, 1) := by decide +kernel
theorem dX7_error_19 : decode cX7_error 19 = .ok (.iaload, 1) := by decide +kernel
theorem dX7_error_20 : decode cX7_error 20 = .ok (.iconst 1, 1) := by decide +kernel
theorem dX7_error_21 : decode cX7_error 21 = .ok (.iadd, 1) := by decide +kernel
theorem dX7_error_22 : decode cX7_error 22 = .ok (.iastore, 1) := by decide +kernel
theorem dX7_error_23 : decode cX7_error 23 = .ok (.ldc_w 293, 3) := by decide +kernel
theorem dX7_error_26 : decode cX7_error 26 = .ok (.iload_n 1, 1) := by decide +kernel
theorem dX7_error_27 : decode cX7_error 27 = .ok (.isub, 1) := by decide +kernel
theorem dX7_error_28 : decode cX7_error 28 = .ok (.ireturn, 1) := by decide +kernel
theorem dX7_isFence_0 : decode cX7_isFence 0 = .ok (.iload_n 1, 1) := by decide +kernel
theorem dX7_isFence_1 : decode cX7_isFence 1 = .ok (.ifCond .lt 18, 3) := by decide +kernel
theorem dX7_isFence_4 : decode cX7_isFence 4 = .ok (.iload_n 1, 1) := by decide +kernel
theorem dX7_isFence_5 : decode cX7_isFence 5 = .ok (.aload_n 0, 1) := by decide +kernel
theorem dX7_isFence_6 : decode cX7_isFence 6 = .ok (.getfield 10, 3) := by decide +kernel
theorem dX7_isFence_9 : decode cX7_isFence 9 = .ok (.getfield 58, 3) := by decide +kernel
theorem dX7_isFence_12 : decode cX7_isFence 12 = .ok (.if_icmp .ge 7, 3) := by decide +kernel
theorem dX7_isFence_15 : decode cX7_isFence 15 = .ok (.iconst 1, 1) := by decide +kernel
theorem dX7_isFence_16 : decode cX7_isFence 16 = .ok (.goto 4, 3) := by decide +kernel
theorem dX7_isFence_19 : decode cX7_isFence 19 = .ok (.iconst 0, 1) := by decide +kernel
theorem dX7_isFence_20 : decode cX7_isFence 20 = .ok (.ireturn, 1) := by decide +kernel
theorem dX7_isPost_0 : decode cX7_isPost 0 = .ok (.aload_n 0, 1) := by decide +kernel
theorem dX7_isPost_1 : decode cX7_isPost 1 = .ok (.iload_n 1, 1) := by decide +kernel
theorem dX7_isPost_2 : decode cX7_isPost 2 = .ok (.invokevirtual 72, 3) := by decide +kernel
theorem dX7_isPost_5 : decode cX7_isPost 5 = .ok (.ifCond .eq 27, 3) := by decide +kernel
theorem dX7_isPost_8 : decode cX7_isPost 8 = .ok (.iload_n 2, 1) := by decide +kernel
theorem dX7_isPost_9 : decode cX7_isPost 9 = .ok (.ifCond .lt 23, 3) := by decide +kernel
theorem dX7_isPost_12 : decode cX7_isPost 12 = .ok (.iload_n 2, 1) := by decide +kernel
theorem dX7_isPost_13 : decode cX7_isPost 13 = .ok (.aload_n 0, 1) := by decide +kernel
theorem dX7_isPost_14 : decode cX7_isPost 14 = .ok (.getfield 10, 3) := by decide +kernel
theorem dX7_isPost_17 : decode cX7_isPost 17 = .ok (.getfield 62, 3) := by decide +kernel
theorem dX7_isPost_20 : decode cX7_isPost 20 = .ok (.iload_n 1, 1) := by decide +kernel
theorem dX7_isPost_21 : decode cX7_isPost 21 = .ok (.aaload, 1) := by decide +kernel
theorem dX7_isPost_22 : decode cX7_isPost 22 = .ok (.getfield 80, 3) := by decide +kernel
theorem dX7_isPost_25 : decode cX7_isPost 25 = .ok (.if_icmp .ge 7, 3) := by decide +kernel
theorem dX7_isPost_28 : decode cX7_isPost 28 = .ok (.iconst 1, 1) := by decide +kernel
theorem dX7_isPost_29 : decode cX7_isPost 29 = .ok (.goto 4, 3) := by decide +kernel
theorem dX7_isPost_32 : decode cX7_isPost 32 = .ok (.iconst 0, 1) := by decide +kernel
theorem dX7_isPost_33 : decode cX7_isPost 33 = .ok (.ireturn, 1) := by decide +kernel
theorem dX7_isCow_0 : decode cX7_isCow 0 = .ok (.iload_n 1, 1) := by decide +kernel
theorem dX7_isCow_1 : decode cX7_isCow 1 = .ok (.ifCond .lt 18, 3) := by decide +kernel
theorem dX7_isCow_4 : decode cX7_isCow 4 = .ok (.iload_n 1, 1) := by decide +kernel
theorem dX7_isCow_5 : decode cX7_isCow 5 = .ok (.aload_n 0, 1) := by decide +kernel
theorem dX7_isCow_6 : decode cX7_isCow 6 = .ok (.getfield 10, 3) := by decide +kernel
theorem dX7_isCow_9 : decode cX7_isCow 9 = .ok (.getfield 143, 3) := by decide +kernel
theorem dX7_isCow_12 : decode cX7_isCow 12 = .ok (.if_icmp .ge 7, 3) := by decide +kernel
theorem dX7_isCow_15 : decode cX7_isCow 15 = .ok (.iconst 1, 1) := by decide +kernel
theorem dX7_isCow_16 : decode cX7_isCow 16 = .ok (.goto 4, 3) := by decide +kernel
theorem dX7_isCow_19 : decode cX7_isCow 19 = .ok (.iconst 0, 1) := by decide +kernel
theorem dX7_isCow_20 : decode cX7_isCow 20 = .ok (.ireturn, 1) := by decide +kernel
theorem dX7_isKm_0 : decode cX7_isKm 0 = .ok (.iload_n 0, 1) := by decide +kernel
theorem dX7_isKm_1 : decode cX7_isKm 1 = .ok (.ifCond .lt 13, 3) := by decide +kernel
theorem dX7_isKm_4 : decode cX7_isKm 4 = .ok (.iload_n 0, 1) := by decide +kernel
theorem dX7_isKm_5 : decode cX7_isKm 5 = .ok (.bipush 69, 2) := by decide +kernel
theorem dX7_isKm_7 : decode cX7_isKm 7 = .ok (.if_icmp .gt 7, 3) := by decide +kernel
theorem dX7_isKm_10 : decode cX7_isKm 10 = .ok (.iconst 1, 1) := by decide +kernel
theorem dX7_isKm_11 : decode cX7_isKm 11 = .ok (.goto 4, 3) := by decide +kernel
theorem dX7_isKm_14 : decode cX7_isKm 14 = .ok (.iconst 0, 1) := by decide +kernel
theorem dX7_isKm_15 : decode cX7_isKm 15 = .ok (.ireturn, 1) := by decide +kernel
theorem dX7_isWay_0 : decode cX7_isWay 0 = .ok (.iload_n 0, 1) := by decide +kernel
theorem dX7_isWay_1 : decode cX7_isWay 1 = .ok (.ifCond .lt 12, 3) := by decide +kernel
theorem dX7_isWay_4 : decode cX7_isWay 4 = .ok (.iload_n 0, 1) := by decide +kernel
theorem dX7_isWay_5 : decode cX7_isWay 5 = .ok (.iconst 4, 1) := by decide +kernel
theorem dX7_isWay_6 : decode cX7_isWay 6 = .ok (.if_icmp .ge 7, 3) := by decide +kernel
theorem dX7_isWay_9 : decode cX7_isWay 9 = .ok (.iconst 1, 1) := by decide +kernel
theorem dX7_isWay_10 : decode cX7_isWay 10 = .ok (.goto 4, 3) := by decide +kernel
theorem dX7_isWay_13 : decode cX7_isWay 13 = .ok (.iconst 0, 1) := by decide +kernel
theorem dX7_isWay_14 : decode cX7_isWay 14 = .ok (.ireturn, 1) := by decide +kernel
theorem dX7_isUse_0 : decode cX7_isUse 0 = .ok (.iload_n 0, 1) := by decide +kernel
theorem dX7_isUse_1 : decode cX7_isUse 1 = .ok (.ifCond .eq 8, 3) := by decide +kernel
theorem dX7_isUse_4 : decode cX7_isUse 4 = .ok (.iload_n 0, 1) := by decide +kernel
theorem dX7_isUse_5 : decode cX7_isUse 5 = .ok (.iconst 1, 1) := by decide +kernel
theorem dX7_isUse_6 : decode cX7_isUse 6 = .ok (.if_icmp .ne 7, 3) := by decide +kernel
theorem dX7_isUse_9 : decode cX7_isUse 9 = .ok (.iconst 1, 1) := by decide +kernel
theorem dX7_isUse_10 : decode cX7_isUse 10 = .ok (.goto 4, 3) := by decide +kernel
theorem dX7_isUse_13 : decode cX7_isUse 13 = .ok (.iconst 0, 1) := by decide +kernel
theorem dX7_isUse_14 : decode cX7_isUse 14 = .ok (.ireturn, 1) := by decide +kernel
theorem dX7_isSheet_0 : decode cX7_isSheet 0 = .ok (.iload_n 0, 1) := by decide +kernel
theorem dX7_isSheet_1 : decode cX7_isSheet 1 = .ok (.ifCond .lt 12, 3) := by decide +kernel
theorem dX7_isSheet_4 : decode cX7_isSheet 4 = .ok (.iload_n 0, 1) := by decide +kernel
theorem dX7_isSheet_5 : decode cX7_isSheet 5 = .ok (.iconst 4, 1) := by decide +kernel
theorem dX7_isSheet_6 : decode cX7_isSheet 6 = .ok (.if_icmp .ge 7, 3) := by decide +kernel
theorem dX7_isSheet_9 : decode cX7_isSheet 9 = .ok (.iconst 1, 1) := by decide +kernel
theorem dX7_isSheet_10 : decode cX7_isSheet 10 = .ok (.goto 4, 3) := by decide +kernel
theorem dX7_isSheet_13 : decode cX7_isSheet 13 = .ok (.iconst 0, 1) := by decide +kernel
theorem dX7_isSheet_14 : decode cX7_isSheet 14 = .ok (.ireturn, 1) := by decide +kernel
theorem dX7_isOfKind_0 : decode cX7_isOfKind 0 = .ok (.iload_n 0, 1) := by decide +kernel
theorem dX7_isOfKind_1 : decode cX7_isOfKind 1 = .ok (.istore_n 2, 1) := by decide +kernel
theorem dX7_isOfKind_2 : decode cX7_isOfKind 2 = .ok (.iconst 0, 1) := by decide +kernel
theorem dX7_isOfKind_3 : decode cX7_isOfKind 3 = .ok (.istore_n 3, 1) := by decide +kernel
theorem dX7_isOfKind_4 : decode cX7_isOfKind 4 = .ok (.iload_n 3, 1) := by decide +kernel
theorem dX7_isOfKind_5 : decode cX7_isOfKind 5 = .ok (.getstatic 294, 3) := by decide +kernel
theorem dX7_isOfKind_8 : decode cX7_isOfKind 8 = .ok (.arraylength, 1) := by decide +kernel
theorem dX7_isOfKind_9 : decode cX7_isOfKind 9 = .ok (.if_icmp .ge 34, 3) := by decide +kernel
theorem dX7_isOfKind_12 : decode cX7_isOfKind 12 = .ok (.iload_n 2, 1) := by decide +kernel
theorem dX7_isOfKind_13 : decode cX7_isOfKind 13 = .ok (.ifCond .lt 30, 3) := by decide +kernel
theorem dX7_isOfKind_16 : decode cX7_isOfKind 16 = .ok (.iload_n 2, 1) := by decide +kernel
theorem dX7_isOfKind_17 : decode cX7_isOfKind 17 = .ok (.getstatic 294, 3) := by decide +kernel
theorem dX7_isOfKind_20 : decode cX7_isOfKind 20 = .ok (.arraylength, 1) := by decide +kernel
theorem dX7_isOfKind_21 : decode cX7_isOfKind 21 = .ok (.if_icmp .ge 22, 3) := by decide +kernel
theorem dX7_isOfKind_24 : decode cX7_isOfKind 24 = .ok (.iload_n 2, 1) := by decide +kernel
theorem dX7_isOfKind_25 : decode cX7_isOfKind 25 = .ok (.iload_n 1, 1) := by decide +kernel
theorem dX7_isOfKind_26 : decode cX7_isOfKind 26 = .ok (.if_icmp .ne 5, 3) := by decide +kernel
theorem dX7_isOfKind_29 : decode cX7_isOfKind 29 = .ok (.iconst 1, 1) := by decide +kernel
theorem dX7_isOfKind_30 : decode cX7_isOfKind 30 = .ok (.ireturn, 1) := by decide +kernel
theorem dX7_isOfKind_31 : decode cX7_isOfKind 31 = .ok (.getstatic 294, 3) := by decide +kernel
theorem dX7_isOfKind_34 : decode cX7_isOfKind 34 = .ok (.iload_n 2, 1) := by decide +kernel
theorem dX7_isOfKind_35 : decode cX7_isOfKind 35 = .ok (.iaload, 1) := by decide +kernel
theorem dX7_isOfKind_36 : decode cX7_isOfKind 36 = .ok (.istore_n 2, 1) := by decide +kernel
theorem dX7_isOfKind_37 : decode cX7_isOfKind 37 = .ok (.iinc 3 1, 3) := by decide +kernel
theorem dX7_isOfKind_40 : decode cX7_isOfKind 40 = .ok (.goto (-36), 3) := by decide +kernel
theorem dX7_isOfKind_43 : decode cX7_isOfKind 43 = .ok (.iconst 0, 1) := by decide +kernel
theorem dX7_isOfKind_44 : decode cX7_isOfKind 44 = .ok (.ireturn, 1) := by decide +kernel
theorem dX7_fewestSalts_0 : decode cX7_fewestSalts 0 = .ok (.aload_n 0, 1) := by decide +kernel
theorem dX7_fewestSalts_1 : decode cX7_fewestSalts 1 = .ok (.iload_n 1, 1) := by decide +kernel
theorem dX7_fewestSalts_2 : decode cX7_fewestSalts 2 = .ok (.iload_n 2, 1) := by decide +kernel
theorem dX7_fewestSalts_3 : decode cX7_fewestSalts 3 = .ok (.iload_n 3, 1) := by decide +kernel
theorem dX7_fewestSalts_4 : decode cX7_fewestSalts 4 = .ok (.lconst 0, 1) := by decide +kernel
theorem dX7_fewestSalts_5 : decode cX7_fewestSalts 5 = .ok (.invokevirtual 297, 3) := by decide +kernel
theorem dX7_fewestSalts_8 : decode cX7_fewestSalts 8 = .ok (.ifCond .eq 5, 3) := by decide +kernel
theorem dX7_fewestSalts_11 : decode cX7_fewestSalts 11 = .ok (.lconst 0, 1) := by decide +kernel
theorem dX7_fewestSalts_12 : decode cX7_fewestSalts 12 = .ok (.lreturn, 1) := by decide +kernel
theorem dX7_fewestSalts_13 : decode cX7_fewestSalts 13 = .ok (.aload_n 0, 1) := by decide +kernel
theorem dX7_fewestSalts_14 : decode cX7_fewestSalts 14 = .ok (.getfield 10, 3) := by decide +kernel
theorem dX7_fewestSalts_17 : decode cX7_fewestSalts 17 = .ok (.getfield 62, 3) := by decide +kernel
theorem dX7_fewestSalts_20 : decode cX7_fewestSalts 20 = .ok (.iload_n 1, 1) := by decide +kernel
theorem dX7_fewestSalts_21 : decode cX7_fewestSalts 21 = .ok (.aaload, 1) := by decide +kernel
theorem dX7_fewestSalts_22 : decode cX7_fewestSalts 22 = .ok (.aload_n 0, 1) := by decide +kernel
theorem dX7_fewestSalts_23 : decode cX7_fewestSalts 23 = .ok (.getfield 10, 3) := by decide +kernel
theorem dX7_fewestSalts_26 : decode cX7_fewestSalts 26 = .ok (.getfield 116, 3) := by decide +kernel
theorem dX7_fewestSalts_29 : decode cX7_fewestSalts 29 = .ok (.iload_n 3, 1) := by decide +kernel
theorem dX7_fewestSalts_30 : decode cX7_fewestSalts 30 = .ok (.invokevirtual 301, 3) := by decide +kernel
theorem dX7_fewestSalts_33 : decode cX7_fewestSalts 33 = .ok (.aload_n 0, 1) := by decide +kernel
theorem dX7_fewestSalts_34 : decode cX7_fewestSalts 34 = .ok (.getfield 10, 3) := by decide +kernel
theorem dX7_fewestSalts_37 : decode cX7_fewestSalts 37 = .ok (.getfield 126, 3) := by decide +kernel
theorem dX7_fewestSalts_40 : decode cX7_fewestSalts 40 = .ok (.ldc2_w 137, 3) := by decide +kernel
theorem dX7_fewestSalts_43 : decode cX7_fewestSalts 43 = .ok (.lxor, 1) := by decide +kernel
theorem dX7_fewestSalts_44 : decode cX7_fewestSalts 44 = .ok (.land, 1) := by decide +kernel
theorem dX7_fewestSalts_45 : decode cX7_fewestSalts 45 = .ok (.lstore 4, 2) := by decide +kernel
theorem dX7_fewestSalts_47 : decode cX7_fewestSalts 47 = .ok (.iconst 0, 1) := by decide +kernel
theorem dX7_fewestSalts_48 : decode cX7_fewestSalts 48 = .ok (.istore 6, 2) := by decide +kernel
theorem dX7_fewestSalts_50 : decode cX7_fewestSalts 50 = .ok (.iload 6, 2) := by decide +kernel
theorem dX7_fewestSalts_52 : decode cX7_fewestSalts 52 = .ok (.bipush 64, 2) := by decide +kernel
theorem dX7_fewestSalts_54 : decode cX7_fewestSalts 54 = .ok (.if_icmp .ge 40, 3) := by decide +kernel
theorem dX7_fewestSalts_57 : decode cX7_fewestSalts 57 = .ok (.lload 4, 2) := by decide +kernel
theorem dX7_fewestSalts_59 : decode cX7_fewestSalts 59 = .ok (.iload 6, 2) := by decide +kernel
theorem dX7_fewestSalts_61 : decode cX7_fewestSalts 61 = .ok (.invokestatic 139, 3) := by decide +kernel
theorem dX7_fewestSalts_64 : decode cX7_fewestSalts 64 = .ok (.ifCond .eq 24, 3) := by decide +kernel
theorem dX7_fewestSalts_67 : decode cX7_fewestSalts 67 = .ok (.aload_n 0, 1) := by decide +kernel
theorem dX7_fewestSalts_68 : decode cX7_fewestSalts 68 = .ok (.iload_n 1, 1) := by decide +kernel
theorem dX7_fewestSalts_69 : decode cX7_fewestSalts 69 = .ok (.iload_n 2, 1) := by decide +kernel
theorem dX7_fewestSalts_70 : decode cX7_fewestSalts 70 = .ok (.iload_n 3, 1) := by decide +kernel
theorem dX7_fewestSalts_71 : decode cX7_fewestSalts 71 = .ok (.iload 6, 2) := by decide +kernel
theorem dX7_fewestSalts_73 : decode cX7_fewestSalts 73 = .ok (.invokestatic 133, 3) := by decide +kernel
theorem dX7_fewestSalts_76 : decode cX7_fewestSalts 76 = .ok (.invokevirtual 297, 3) := by decide +kernel
theorem dX7_fewestSalts_79 : decode cX7_fewestSalts 79 = .ok (.ifCond .eq 9, 3) := by decide +kernel
theorem dX7_fewestSalts_82 : decode cX7_fewestSalts 82 = .ok (.iload 6, 2) := by decide +kernel
theorem dX7_fewestSalts_84 : decode cX7_fewestSalts 84 = .ok (.invokestatic 133, 3) := by decide +kernel
theorem dX7_fewestSalts_87 : decode cX7_fewestSalts 87 = .ok (.lreturn, 1) := by decide +kernel
theorem dX7_fewestSalts_88 : decode cX7_fewestSalts 88 = .ok (.iinc 6 1, 3) := by decide +kernel
theorem dX7_fewestSalts_91 : decode cX7_fewestSalts 91 = .ok (.goto (-41), 3) := by decide +kernel
theorem dX7_fewestSalts_94 : decode cX7_fewestSalts 94 = .ok (.iconst 0, 1) := by decide +kernel
theorem dX7_fewestSalts_95 : decode cX7_fewestSalts 95 = .ok (.istore 6, 2) := by decide +kernel
theorem dX7_fewestSalts_97 : decode cX7_fewestSalts 97 = .ok (.iload 6, 2) := by decide +kernel
theorem dX7_fewestSalts_99 : decode cX7_fewestSalts 99 = .ok (.bipush 64, 2) := by decide +kernel
theorem dX7_fewestSalts_101 : decode cX7_fewestSalts 101 = .ok (.if_icmp .ge 76, 3) := by decide +kernel
theorem dX7_fewestSalts_104 : decode cX7_fewestSalts 104 = .ok (.iload 6, 2) := by decide +kernel
theorem dX7_fewestSalts_106 : decode cX7_fewestSalts 106 = .ok (.iconst 1, 1) := by decide +kernel
theorem dX7_fewestSalts_107 : decode cX7_fewestSalts 107 = .ok (.iadd, 1) := by decide +kernel
theorem dX7_fewestSalts_108 : decode cX7_fewestSalts 108 = .ok (.istore 7, 2) := by decide +kernel
theorem dX7_fewestSalts_110 : decode cX7_fewestSalts 110 = .ok (.iload 7, 2) := by decide +kernel
theorem dX7_fewestSalts_112 : decode cX7_fewestSalts 112 = .ok (.bipush 64, 2) := by decide +kernel
theorem dX7_fewestSalts_114 : decode cX7_fewestSalts 114 = .ok (.if_icmp .ge 57, 3) := by decide +kernel
theorem dX7_fewestSalts_117 : decode cX7_fewestSalts 117 = .ok (.lload 4, 2) := by decide +kernel
theorem dX7_fewestSalts_119 : decode cX7_fewestSalts 119 = .ok (.iload 6, 2) := by decide +kernel
theorem dX7_fewestSalts_121 : decode cX7_fewestSalts 121 = .ok (.invokestatic 139, 3) := by decide +kernel
theorem dX7_fewestSalts_124 : decode cX7_fewestSalts 124 = .ok (.ifCond .eq 47, 3) := by decide +kernel
theorem dX7_fewestSalts_127 : decode cX7_fewestSalts 127 = .ok (.iload 6, 2) := by decide +kernel
theorem dX7_fewestSalts_129 : decode cX7_fewestSalts 129 = .ok (.invokestatic 133, 3) := by decide +kernel
theorem dX7_fewestSalts_132 : decode cX7_fewestSalts 132 = .ok (.iload 7, 2) := by decide +kernel
theorem dX7_fewestSalts_134 : decode cX7_fewestSalts 134 = .ok (.invokestatic 133, 3) := by decide +kernel
theorem dX7_fewestSalts_137 : decode cX7_fewestSalts 137 = .ok (.lor, 1) := by decide +kernel
theorem dX7_fewestSalts_138 : decode cX7_fewestSalts 138 = .ok (.lstore 8, 2) := by decide +kernel
theorem dX7_fewestSalts_140 : decode cX7_fewestSalts 140 = .ok (.lload 4, 2) := by decide +kernel
theorem dX7_fewestSalts_142 : decode cX7_fewestSalts 142 = .ok (.iload 7, 2) := by decide +kernel
theorem dX7_fewestSalts_144 : decode cX7_fewestSalts 144 = .ok (.invokestatic 139, 3) := by decide +kernel
theorem dX7_fewestSalts_147 : decode cX7_fewestSalts 147 = .ok (.ifCond .eq 18, 3) := by decide +kernel
theorem dX7_fewestSalts_150 : decode cX7_fewestSalts 150 = .ok (.aload_n 0, 1) := by decide +kernel
theorem dX7_fewestSalts_151 : decode cX7_fewestSalts 151 = .ok (.iload_n 1, 1) := by decide +kernel
theorem dX7_fewestSalts_152 : decode cX7_fewestSalts 152 = .ok (.iload_n 2, 1) := by decide +kernel
theorem dX7_fewestSalts_153 : decode cX7_fewestSalts 153 = .ok (.iload_n 3, 1) := by decide +kernel
theorem dX7_fewestSalts_154 : decode cX7_fewestSalts 154 = .ok (.lload 8, 2) := by decide +kernel
theorem dX7_fewestSalts_156 : decode cX7_fewestSalts 156 = .ok (.invokevirtual 297, 3) := by decide +kernel
theorem dX7_fewestSalts_159 : decode cX7_fewestSalts 159 = .ok (.ifCond .eq 6, 3) := by decide +kernel
theorem dX7_fewestSalts_162 : decode cX7_fewestSalts 162 = .ok (.lload 8, 2) := by decide +kernel
theorem dX7_fewestSalts_164 : decode cX7_fewestSalts 164 = .ok (.lreturn, 1) := by decide +kernel
theorem dX7_fewestSalts_165 : decode cX7_fewestSalts 165 = .ok (.iinc 7 1, 3) := by decide +kernel
theorem dX7_fewestSalts_168 : decode cX7_fewestSalts 168 = .ok (.goto (-58), 3) := by decide +kernel
theorem dX7_fewestSalts_171 : decode cX7_fewestSalts 171 = .ok (.iinc 6 1, 3) := by decide +kernel
theorem dX7_fewestSalts_174 : decode cX7_fewestSalts 174 = .ok (.goto (-77), 3) := by decide +kernel
theorem dX7_fewestSalts_177 : decode cX7_fewestSalts 177 = .ok (.ldc2_w 137, 3) := by decide +kernel
theorem dX7_fewestSalts_180 : decode cX7_fewestSalts 180 = .ok (.lreturn, 1) := by decide +kernel
theorem dX7_isInsideSalted_0 : decode cX7_isInsideSalted 0 = .ok (.aload_n 0, 1) := by decide +kernel
theorem dX7_isInsideSalted_1 : decode cX7_isInsideSalted 1 = .ok (.getfield 19, 3) := by decide +kernel
theorem dX7_isInsideSalted_4 : decode cX7_isInsideSalted 4 = .ok (.getfield 62, 3) := by decide +kernel
theorem dX7_isInsideSalted_7 : decode cX7_isInsideSalted 7 = .ok (.iload_n 1, 1) := by decide +kernel
theorem dX7_isInsideSalted_8 : decode cX7_isInsideSalted 8 = .ok (.aaload, 1) := by decide +kernel
theorem dX7_isInsideSalted_9 : decode cX7_isInsideSalted 9 = .ok (.astore 6, 2) := by decide +kernel
theorem dX7_isInsideSalted_11 : decode cX7_isInsideSalted 11 = .ok (.aload 6, 2) := by decide +kernel
theorem dX7_isInsideSalted_13 : decode cX7_isInsideSalted 13 = .ok (.aload_n 0, 1) := by decide +kernel
theorem dX7_isInsideSalted_14 : decode cX7_isInsideSalted 14 = .ok (.getfield 10, 3) := by decide +kernel
theorem dX7_isInsideSalted_17 : decode cX7_isInsideSalted 17 = .ok (.getfield 62, 3) := by decide +kernel
theorem dX7_isInsideSalted_20 : decode cX7_isInsideSalted 20 = .ok (.iload_n 1, 1) := by decide +kernel
theorem dX7_isInsideSalted_21 : decode cX7_isInsideSalted 21 = .ok (.aaload, 1) := by decide +kernel
theorem dX7_isInsideSalted_22 : decode cX7_isInsideSalted 22 = .ok (.invokevirtual 305, 3) := by decide +kernel
theorem dX7_isInsideSalted_25 : decode cX7_isInsideSalted 25 = .ok (.iconst 0, 1) := by decide +kernel
theorem dX7_isInsideSalted_26 : decode cX7_isInsideSalted 26 = .ok (.istore 7, 2) := by decide +kernel
theorem dX7_isInsideSalted_28 : decode cX7_isInsideSalted 28 = .ok (.iload 7, 2) := by decide +kernel
theorem dX7_isInsideSalted_30 : decode cX7_isInsideSalted 30 = .ok (.iload_n 3, 1) := by decide +kernel
theorem dX7_isInsideSalted_31 : decode cX7_isInsideSalted 31 = .ok (.if_icmp .ge 41, 3) := by decide +kernel
theorem dX7_isInsideSalted_34 : decode cX7_isInsideSalted 34 = .ok (.aload 6, 2) := by decide +kernel
theorem dX7_isInsideSalted_36 : decode cX7_isInsideSalted 36 = .ok (.aload_n 0, 1) := by decide +kernel
theorem dX7_isInsideSalted_37 : decode cX7_isInsideSalted 37 = .ok (.getfield 10, 3) := by decide +kernel
theorem dX7_isInsideSalted_40 : decode cX7_isInsideSalted 40 = .ok (.getfield 126, 3) := by decide +kernel
theorem dX7_isInsideSalted_43 : decode cX7_isInsideSalted 43 = .ok (.lload 4, 2) := by decide +kernel
theorem dX7_isInsideSalted_45 : decode cX7_isInsideSalted 45 = .ok (.lor, 1) := by decide +kernel
theorem dX7_isInsideSalted_46 : decode cX7_isInsideSalted 46 = .ok (.aload_n 0, 1) := by decide +kernel
theorem dX7_isInsideSalted_47 : decode cX7_isInsideSalted 47 = .ok (.getfield 10, 3) := by decide +kernel
theorem dX7_isInsideSalted_50 : decode cX7_isInsideSalted 50 = .ok (.getfield 130, 3) := by decide +kernel
theorem dX7_isInsideSalted_53 : decode cX7_isInsideSalted 53 = .ok (.aload_n 0, 1) := by decide +kernel
theorem dX7_isInsideSalted_54 : decode cX7_isInsideSalted 54 = .ok (.getfield 10, 3) := by decide +kernel
theorem dX7_isInsideSalted_57 : decode cX7_isInsideSalted 57 = .ok (.getfield 116, 3) := by decide +kernel
theorem dX7_isInsideSalted_60 : decode cX7_isInsideSalted 60 = .ok (.iload 7, 2) := by decide +kernel
theorem dX7_isInsideSalted_62 : decode cX7_isInsideSalted 62 = .ok (.iadd, 1) := by decide +kernel
theorem dX7_isInsideSalted_63 : decode cX7_isInsideSalted 63 = .ok (.invokevirtual 308, 3) := by decide +kernel
theorem dX7_isInsideSalted_66 : decode cX7_isInsideSalted 66 = .ok (.iinc 7 1, 3) := by decide +kernel
theorem dX7_isInsideSalted_69 : decode cX7_isInsideSalted 69 = .ok (.goto (-41), 3) := by decide +kernel
theorem dX7_isInsideSalted_72 : decode cX7_isInsideSalted 72 = .ok (.aload 6, 2) := by decide +kernel
theorem dX7_isInsideSalted_74 : decode cX7_isInsideSalted 74 = .ok (.invokevirtual 98, 3) := by decide +kernel
theorem dX7_isInsideSalted_77 : decode cX7_isInsideSalted 77 = .ok (.iload_n 2, 1) := by decide +kernel
theorem dX7_isInsideSalted_78 : decode cX7_isInsideSalted 78 = .ok (.invokestatic 139, 3) := by decide +kernel
theorem dX7_isInsideSalted_81 : decode cX7_isInsideSalted 81 = .ok (.ireturn, 1) := by decide +kernel
