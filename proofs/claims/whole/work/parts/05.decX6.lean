theorem dX6_in_0 : decode cX6_in 0 = .ok (.lload_n 0, 1) := by decide +kernel
theorem dX6_in_1 : decode cX6_in 1 = .ok (.lload_n 2, 1) := by decide +kernel
theorem dX6_in_2 : decode cX6_in 2 = .ok (.lcmp, 1) := by decide +kernel
theorem dX6_in_3 : decode cX6_in 3 = .ok (.ifCond .lt 14, 3) := by decide +kernel
theorem dX6_in_6 : decode cX6_in 6 = .ok (.lload_n 0, 1) := by decide +kernel
theorem dX6_in_7 : decode cX6_in 7 = .ok (.lload 4, 2) := by decide +kernel
theorem dX6_in_9 : decode cX6_in 9 = .ok (.lcmp, 1) := by decide +kernel
theorem dX6_in_10 : decode cX6_in 10 = .ok (.ifCond .gt 7, 3) := by decide +kernel
theorem dX6_in_13 : decode cX6_in 13 = .ok (.iconst 1, 1) := by decide +kernel
theorem dX6_in_14 : decode cX6_in 14 = .ok (.goto 4, 3) := by decide +kernel
theorem dX6_in_17 : decode cX6_in 17 = .ok (.iconst 0, 1) := by decide +kernel
theorem dX6_in_18 : decode cX6_in 18 = .ok (.ireturn, 1) := by decide +kernel
theorem dX6_no_0 : decode cX6_no 0 = .ok (.aload_n 0, 1) := by decide +kernel
theorem dX6_no_1 : decode cX6_no 1 = .ok (.getfield 7, 3) := by decide +kernel
theorem dX6_no_4 : decode cX6_no 4 = .ok (.iload_n 1, 1) := by decide +kernel
theorem dX6_no_5 : decode cX6_no 5 = .ok (.ineg, 1) := by decide +kernel
theorem dX6_no_6 : decode cX6_no 6 = .ok (.dup2, 1) := by decide +kernel
theorem dX6_no_7 : decode cX6_no 7 = .ok (.iaload, 1) := by decide +kernel
theorem dX6_no_8 : decode cX6_no 8 = .ok (.iconst 1, 1) := by decide +kernel
theorem dX6_no_9 : decode cX6_no 9 = .ok (.iadd, 1) := by decide +kernel
theorem dX6_no_10 : decode cX6_no 10 = .ok (.iastore, 1) := by decide +kernel
theorem dX6_no_11 : decode cX6_no 11 = .ok (.iload_n 1, 1) := by decide +kernel
theorem dX6_no_12 : decode cX6_no 12 = .ok (.ireturn, 1) := by decide +kernel
theorem dX6_far_0 : decode cX6_far 0 = .ok (.ldc2_w 11, 3) := by decide +kernel
theorem dX6_far_3 : decode cX6_far 3 = .ok (.aload_n 0, 1) := by decide +kernel
theorem dX6_far_4 : decode cX6_far 4 = .ok (.iload_n 1, 1) := by decide +kernel
theorem dX6_far_5 : decode cX6_far 5 = .ok (.invokevirtual 13, 3) := by decide +kernel
theorem dX6_far_8 : decode cX6_far 8 = .ok (.i2l, 1) := by decide +kernel
theorem dX6_far_9 : decode cX6_far 9 = .ok (.lsub, 1) := by decide +kernel
theorem dX6_far_10 : decode cX6_far 10 = .ok (.lreturn, 1) := by decide +kernel
theorem dX6_init_0 : decode cX6_init 0 = .ok (.aload_n 0, 1) := by decide +kernel
theorem dX6_init_1 : decode cX6_init 1 = .ok (.invokespecial 17, 3) := by decide +kernel
theorem dX6_init_4 : decode cX6_init 4 = .ok (.aload_n 0, 1) := by decide +kernel
theorem dX6_init_5 : decode cX6_init 5 = .ok (.bipush 7, 2) := by decide +kernel
theorem dX6_init_7 : decode cX6_init 7 = .ok (.newarray .int, 2) := by decide +kernel
theorem dX6_init_9 : decode cX6_init 9 = .ok (.putfield 7, 3) := by decide +kernel
theorem dX6_init_12 : decode cX6_init 12 = .ok (.aload_n 0, 1) := by decide +kernel
theorem dX6_init_13 : decode cX6_init 13 = .ok (.bipush 41, 2) := by decide +kernel
theorem dX6_init_15 : decode cX6_init 15 = .ok (.newarray .int, 2) := by decide +kernel
theorem dX6_init_17 : decode cX6_init 17 = .ok (.putfield 23, 3) := by decide +kernel
theorem dX6_init_20 : decode cX6_init 20 = .ok (.aload_n 0, 1) := by decide +kernel
theorem dX6_init_21 : decode cX6_init 21 = .ok (.sipush 328, 3) := by decide +kernel
theorem dX6_init_24 : decode cX6_init 24 = .ok (.newarray .int, 2) := by decide +kernel
theorem dX6_init_26 : decode cX6_init 26 = .ok (.putfield 26, 3) := by decide +kernel
theorem dX6_init_29 : decode cX6_init 29 = .ok (.aload_n 0, 1) := by decide +kernel
theorem dX6_init_30 : decode cX6_init 30 = .ok (.bipush 41, 2) := by decide +kernel
theorem dX6_init_32 : decode cX6_init 32 = .ok (.newarray .int, 2) := by decide +kernel
theorem dX6_init_34 : decode cX6_init 34 = .ok (.putfield 29, 3) := by decide +kernel
theorem dX6_init_37 : decode cX6_init 37 = .ok (.aload_n 0, 1) := by decide +kernel
theorem dX6_init_38 : decode cX6_init 38 = .ok (.bipush 120, 2) := by decide +kernel
theorem dX6_init_40 : decode cX6_init 40 = .ok (.newarray .int, 2) := by decide +kernel
theorem dX6_init_42 : decode cX6_init 42 = .ok (.putfield 32, 3) := by decide +kernel
theorem dX6_init_45 : decode cX6_init 45 = .ok (.aload_n 0, 1) := by decide +kernel
theorem dX6_init_46 : decode cX6_init 46 = .ok (.iconst 4, 1) := by decide +kernel
theorem dX6_init_47 : decode cX6_init 47 = .ok (.newarray .int, 2) := by decide +kernel
theorem dX6_init_49 : decode cX6_init 49 = .ok (.putfield 35, 3) := by decide +kernel
theorem dX6_init_52 : decode cX6_init 52 = .ok (.aload_n 0, 1) := by decide +kernel
theorem dX6_init_53 : decode cX6_init 53 = .ok (.bipush 41, 2) := by decide +kernel
theorem dX6_init_55 : decode cX6_init 55 = .ok (.newarray .int, 2) := by decide +kernel
theorem dX6_init_57 : decode cX6_init 57 = .ok (.putfield 38, 3) := by decide +kernel
theorem dX6_init_60 : decode cX6_init 60 = .ok (.aload_n 0, 1) := by decide +kernel
theorem dX6_init_61 : decode cX6_init 61 = .ok (.bipush 16, 2) := by decide +kernel
theorem dX6_init_63 : decode cX6_init 63 = .ok (.newarray .long, 2) := by decide +kernel
theorem dX6_init_65 : decode cX6_init 65 = .ok (.putfield 41, 3) := by decide +kernel
theorem dX6_init_68 : decode cX6_init 68 = .ok (.aload_n 0, 1) := by decide +kernel
theorem dX6_init_69 : decode cX6_init 69 = .ok (.bipush 18, 2) := by decide +kernel
theorem dX6_init_71 : decode cX6_init 71 = .ok (.newarray .long, 2) := by decide +kernel
theorem dX6_init_73 : decode cX6_init 73 = .ok (.putfield 45, 3) := by decide +kernel
theorem dX6_init_76 : decode cX6_init 76 = .ok (.aload_n 0, 1) := by decide +kernel
theorem dX6_init_77 : decode cX6_init 77 = .ok (.bipush 9, 2) := by decide +kernel
theorem dX6_init_79 : decode cX6_init 79 = .ok (.newarray .int, 2) := by decide +kernel
theorem dX6_init_81 : decode cX6_init 81 = .ok (.putfield 48, 3) := by decide +kernel
theorem dX6_init_84 : decode cX6_init 84 = .ok (.aload_n 0, 1) := by decide +kernel
theorem dX6_init_85 : decode cX6_init 85 = .ok (.iconst 3, 1) := by decide +kernel
theorem dX6_init_86 : decode cX6_init 86 = .ok (.newarray .int, 2) := by decide +kernel
theorem dX6_init_88 : decode cX6_init 88 = .ok (.dup, 1) := by decide +kernel
theorem dX6_init_89 : decode cX6_init 89 = .ok (.iconst 0, 1) := by decide +kernel
theorem dX6_init_90 : decode cX6_init 90 = .ok (.iconst (-1), 1) := by decide +kernel
theorem dX6_init_91 : decode cX6_init 91 = .ok (.iastore, 1) := by decide +kernel
theorem dX6_init_92 : decode cX6_init 92 = .ok (.dup, 1) := by decide +kernel
theorem dX6_init_93 : decode cX6_init 93 = .ok (.iconst 1, 1) := by decide +kernel
theorem dX6_init_94 : decode cX6_init 94 = .ok (.iconst (-1), 1) := by decide +kernel
theorem dX6_init_95 : decode cX6_init 95 = .ok (.iastore, 1) := by decide +kernel
theorem dX6_init_96 : decode cX6_init 96 = .ok (.dup, 1) := by decide +kernel
theorem dX6_init_97 : decode cX6_init 97 = .ok (.iconst 2, 1) := by decide +kernel
theorem dX6_init_98 : decode cX6_init 98 = .ok (.iconst (-1), 1) := by decide +kernel
theorem dX6_init_99 : decode cX6_init 99 = .ok (.iastore, 1) := by decide +kernel
theorem dX6_init_100 : decode cX6_init 100 = .ok (.putfield 51, 3) := by decide +kernel
theorem dX6_init_103 : decode cX6_init 103 = .ok (.aload_n 0, 1) := by decide +kernel
theorem dX6_init_104 : decode cX6_init 104 = .ok (.iconst 3, 1) := by decide +kernel
theorem dX6_init_105 : decode cX6_init 105 = .ok (.newarray .int, 2) := by decide +kernel
theorem dX6_init_107 : decode cX6_init 107 = .ok (.putfield 54, 3) := by decide +kernel
theorem dX6_init_110 : decode cX6_init 110 = .ok (.aload_n 0, 1) := by decide +kernel
theorem dX6_init_111 : decode cX6_init 111 = .ok (.bipush 60, 2) := by decide +kernel
theorem dX6_init_113 : decode cX6_init 113 = .ok (.newarray .long, 2) := by decide +kernel
theorem dX6_init_115 : decode cX6_init 115 = .ok (.putfield 57, 3) := by decide +kernel
theorem dX6_init_118 : decode cX6_init 118 = .ok (.aload_n 0, 1) := by decide +kernel
theorem dX6_init_119 : decode cX6_init 119 = .ok (.bipush 41, 2) := by decide +kernel
theorem dX6_init_121 : decode cX6_init 121 = .ok (.newarray .int, 2) := by decide +kernel
theorem dX6_init_123 : decode cX6_init 123 = .ok (.putfield 60, 3) := by decide +kernel
theorem dX6_init_126 : decode cX6_init 126 = .ok (.return_, 1) := by decide +kernel
theorem dX6_copies_0 : decode cX6_copies 0 = .ok (.iconst 0, 1) := by decide +kernel
theorem dX6_copies_1 : decode cX6_copies 1 = .ok (.istore 4, 2) := by decide +kernel
theorem dX6_copies_3 : decode cX6_copies 3 = .ok (.iload 4, 2) := by decide +kernel
theorem dX6_copies_5 : decode cX6_copies 5 = .ok (.bipush 41, 2) := by decide +kernel
theorem dX6_copies_7 : decode cX6_copies 7 = .ok (.if_icmp .ge 21, 3) := by decide +kernel
theorem dX6_copies_10 : decode cX6_copies 10 = .ok (.aload_n 2, 1) := by decide +kernel
theorem dX6_copies_11 : decode cX6_copies 11 = .ok (.iload_n 3, 1) := by decide +kernel
theorem dX6_copies_12 : decode cX6_copies 12 = .ok (.iload 4, 2) := by decide +kernel
theorem dX6_copies_14 : decode cX6_copies 14 = .ok (.iadd, 1) := by decide +kernel
theorem dX6_copies_15 : decode cX6_copies 15 = .ok (.aload_n 0, 1) := by decide +kernel
theorem dX6_copies_16 : decode cX6_copies 16 = .ok (.iload_n 1, 1) := by decide +kernel
theorem dX6_copies_17 : decode cX6_copies 17 = .ok (.iload 4, 2) := by decide +kernel
theorem dX6_copies_19 : decode cX6_copies 19 = .ok (.iadd, 1) := by decide +kernel
theorem dX6_copies_20 : decode cX6_copies 20 = .ok (.iaload, 1) := by decide +kernel
theorem dX6_copies_21 : decode cX6_copies 21 = .ok (.iastore, 1) := by decide +kernel
theorem dX6_copies_22 : decode cX6_copies 22 = .ok (.iinc 4 1, 3) := by decide +kernel
theorem dX6_copies_25 : decode cX6_copies 25 = .ok (.goto (-22), 3) := by decide +kernel
theorem dX6_copies_28 : decode cX6_copies 28 = .ok (.return_, 1) := by decide +kernel
theorem dX6_many_0 : decode cX6_many 0 = .ok (.aload_n 0, 1) := by decide +kernel
theorem dX6_many_1 : decode cX6_many 1 = .ok (.getfield 23, 3) := by decide +kernel
theorem dX6_many_4 : decode cX6_many 4 = .ok (.bipush 40, 2) := by decide +kernel
theorem dX6_many_6 : decode cX6_many 6 = .ok (.iaload, 1) := by decide +kernel
theorem dX6_many_7 : decode cX6_many 7 = .ok (.ireturn, 1) := by decide +kernel
theorem dX6_isSide_0 : decode cX6_isSide 0 = .ok (.iload_n 1, 1) := by decide +kernel
theorem dX6_isSide_1 : decode cX6_isSide 1 = .ok (.i2l, 1) := by decide +kernel
theorem dX6_isSide_2 : decode cX6_isSide 2 = .ok (.lconst 0, 1) := by decide +kernel
theorem dX6_isSide_3 : decode cX6_isSide 3 = .ok (.aload_n 0, 1) := by decide +kernel
theorem dX6_isSide_4 : decode cX6_isSide 4 = .ok (.invokevirtual 63, 3) := by decide +kernel
theorem dX6_isSide_7 : decode cX6_isSide 7 = .ok (.iconst 1, 1) := by decide +kernel
theorem dX6_isSide_8 : decode cX6_isSide 8 = .ok (.isub, 1) := by decide +kernel
theorem dX6_isSide_9 : decode cX6_isSide 9 = .ok (.i2l, 1) := by decide +kernel
theorem dX6_isSide_10 : decode cX6_isSide 10 = .ok (.invokestatic 67, 3) := by decide +kernel
theorem dX6_isSide_13 : decode cX6_isSide 13 = .ok (.ireturn, 1) := by decide +kernel
theorem dX6_at_0 : decode cX6_at 0 = .ok (.aload_n 0, 1) := by decide +kernel
theorem dX6_at_1 : decode cX6_at 1 = .ok (.getfield 23, 3) := by decide +kernel
theorem dX6_at_4 : decode cX6_at 4 = .ok (.iconst 5, 1) := by decide +kernel
theorem dX6_at_5 : decode cX6_at 5 = .ok (.iload_n 1, 1) := by decide +kernel
theorem dX6_at_6 : decode cX6_at 6 = .ok (.imul, 1) := by decide +kernel
theorem dX6_at_7 : decode cX6_at 7 = .ok (.iload_n 2, 1) := by decide +kernel
theorem dX6_at_8 : decode cX6_at 8 = .ok (.iadd, 1) := by decide +kernel
theorem dX6_at_9 : decode cX6_at 9 = .ok (.iaload, 1) := by decide +kernel
theorem dX6_at_10 : decode cX6_at 10 = .ok (.ireturn, 1) := by decide +kernel
theorem dX6_size_0 : decode cX6_size 0 = .ok (.iload_n 0, 1) := by decide +kernel
theorem dX6_size_1 : decode cX6_size 1 = .ok (.ifCond .ge 8, 3) := by decide +kernel
theorem dX6_size_4 : decode cX6_size 4 = .ok (.iload_n 0, 1) := by decide +kernel
theorem dX6_size_5 : decode cX6_size 5 = .ok (.ineg, 1) := by decide +kernel
theorem dX6_size_6 : decode cX6_size 6 = .ok (.goto 4, 3) := by decide +kernel
theorem dX6_size_9 : decode cX6_size 9 = .ok (.iload_n 0, 1) := by decide +kernel
theorem dX6_size_10 : decode cX6_size 10 = .ok (.ireturn, 1) := by decide +kernel
theorem dX6_stretchOf_0 : decode cX6_stretchOf 0 = .ok (.iload_n 0, 1) := by decide +kernel
theorem dX6_stretchOf_1 : decode cX6_stretchOf 1 = .ok (.iconst 1, 1) := by decide +kernel
theorem dX6_stretchOf_2 : decode cX6_stretchOf 2 = .ok (.if_icmp .eq 8, 3) := by decide +kernel
theorem dX6_stretchOf_5 : decode cX6_stretchOf 5 = .ok (.iload_n 0, 1) := by decide +kernel
theorem dX6_stretchOf_6 : decode cX6_stretchOf 6 = .ok (.iconst 3, 1) := by decide +kernel
theorem dX6_stretchOf_7 : decode cX6_stretchOf 7 = .ok (.if_icmp .ne 10, 3) := by decide +kernel
theorem dX6_stretchOf_10 : decode cX6_stretchOf 10 = .ok (.bipush 10, 2) := by decide +kernel
theorem dX6_stretchOf_12 : decode cX6_stretchOf 12 = .ok (.iload_n 1, 1) := by decide +kernel
theorem dX6_stretchOf_13 : decode cX6_stretchOf 13 = .ok (.iadd, 1) := by decide +kernel
theorem dX6_stretchOf_14 : decode cX6_stretchOf 14 = .ok (.goto 17, 3) := by decide +kernel
theorem dX6_stretchOf_17 : decode cX6_stretchOf 17 = .ok (.iload_n 0, 1) := by decide +kernel
theorem dX6_stretchOf_18 : decode cX6_stretchOf 18 = .ok (.iconst 5, 1) := by decide +kernel
theorem dX6_stretchOf_19 : decode cX6_stretchOf 19 = .ok (.if_icmp .ne 10, 3) := by decide +kernel
theorem dX6_stretchOf_22 : decode cX6_stretchOf 22 = .ok (.bipush 10, 2) := by decide +kernel
theorem dX6_stretchOf_24 : decode cX6_stretchOf 24 = .ok (.iload_n 1, 1) := by decide +kernel
theorem dX6_stretchOf_25 : decode cX6_stretchOf 25 = .ok (.isub, 1) := by decide +kernel
theorem dX6_stretchOf_26 : decode cX6_stretchOf 26 = .ok (.goto 5, 3) := by decide +kernel
theorem dX6_stretchOf_29 : decode cX6_stretchOf 29 = .ok (.bipush 10, 2) := by decide +kernel
theorem dX6_stretchOf_31 : decode cX6_stretchOf 31 = .ok (.ireturn, 1) := by decide +kernel
theorem dX6_weightOf_0 : decode cX6_weightOf 0 = .ok (.iload_n 1, 1) := by decide +kernel
theorem dX6_weightOf_1 : decode cX6_weightOf 1 = .ok (.iload_n 2, 1) := by decide +kernel
theorem dX6_weightOf_2 : decode cX6_weightOf 2 = .ok (.invokestatic 71, 3) := by decide +kernel
theorem dX6_weightOf_5 : decode cX6_weightOf 5 = .ok (.iload_n 3, 1) := by decide +kernel
theorem dX6_weightOf_6 : decode cX6_weightOf 6 = .ok (.invokestatic 71, 3) := by decide +kernel
theorem dX6_weightOf_9 : decode cX6_weightOf 9 = .ok (.iadd, 1) := by decide +kernel
theorem dX6_weightOf_10 : decode cX6_weightOf 10 = .ok (.imul, 1) := by decide +kernel
theorem dX6_weightOf_11 : decode cX6_weightOf 11 = .ok (.istore 4, 2) := by decide +kernel
theorem dX6_weightOf_13 : decode cX6_weightOf 13 = .ok (.iload_n 0, 1) := by decide +kernel
theorem dX6_weightOf_14 : decode cX6_weightOf 14 = .ok (.iconst 4, 1) := by decide +kernel
theorem dX6_weightOf_15 : decode cX6_weightOf 15 = .ok (.if_icmp .ne 5, 3) := by decide +kernel
theorem dX6_weightOf_18 : decode cX6_weightOf 18 = .ok (.iconst 0, 1) := by decide +kernel
theorem dX6_weightOf_19 : decode cX6_weightOf 19 = .ok (.ireturn, 1) := by decide +kernel
theorem dX6_weightOf_20 : decode cX6_weightOf 20 = .ok (.iload_n 0, 1) := by decide +kernel
theorem dX6_weightOf_21 : decode cX6_weightOf 21 = .ok (.iconst 2, 1) := by decide +kernel
theorem dX6_weightOf_22 : decode cX6_weightOf 22 = .ok (.if_icmp .eq 8, 3) := by decide +kernel
theorem dX6_weightOf_25 : decode cX6_weightOf 25 = .ok (.iload_n 0, 1) := by decide +kernel
theorem dX6_weightOf_26 : decode cX6_weightOf 26 = .ok (.iconst 5, 1) := by decide +kernel
theorem dX6_weightOf_27 : decode cX6_weightOf 27 = .ok (.if_icmp .ne 8, 3) := by decide +kernel
theorem dX6_weightOf_30 : decode cX6_weightOf 30 = .ok (.iconst 2, 1) := by decide +kernel
theorem dX6_weightOf_31 : decode cX6_weightOf 31 = .ok (.iload 4, 2) := by decide +kernel
theorem dX6_weightOf_33 : decode cX6_weightOf 33 = .ok (.imul, 1) := by decide +kernel
theorem dX6_weightOf_34 : decode cX6_weightOf 34 = .ok (.ireturn, 1) := by decide +kernel
theorem dX6_weightOf_35 : decode cX6_weightOf 35 = .ok (.iload_n 0, 1) := by decide +kernel
theorem dX6_weightOf_36 : decode cX6_weightOf 36 = .ok (.iconst 3, 1) := by decide +kernel
theorem dX6_weightOf_37 : decode cX6_weightOf 37 = .ok (.if_icmp .ne 14, 3) := by decide +kernel
theorem dX6_weightOf_40 : decode cX6_weightOf 40 = .ok (.iconst 1, 1) := by decide +kernel
theorem dX6_weightOf_41 : decode cX6_weightOf 41 = .ok (.iload 4, 2) := by decide +kernel
theorem dX6_weightOf_43 : decode cX6_weightOf 43 = .ok (.iconst 2, 1) := by decide +kernel
theorem dX6_weightOf_44 : decode cX6_weightOf 44 = .ok (.idiv, 1) := by decide +kernel
theorem dX6_weightOf_45 : decode cX6_weightOf 45 = .ok (.invokestatic 74, 3) := by decide +kernel
theorem dX6_weightOf_48 : decode cX6_weightOf 48 = .ok (.goto 5, 3) := by decide +kernel
theorem dX6_weightOf_51 : decode cX6_weightOf 51 = .ok (.iload 4, 2) := by decide +kernel
theorem dX6_weightOf_53 : decode cX6_weightOf 53 = .ok (.ireturn, 1) := by decide +kernel
theorem dX6_weight_0 : decode cX6_weight 0 = .ok (.aload_n 0, 1) := by decide +kernel
theorem dX6_weight_1 : decode cX6_weight 1 = .ok (.iload_n 1, 1) := by decide +kernel
theorem dX6_weight_2 : decode cX6_weight 2 = .ok (.iconst 0, 1) := by decide +kernel
theorem dX6_weight_3 : decode cX6_weight 3 = .ok (.invokevirtual 80, 3) := by decide +kernel
theorem dX6_weight_6 : decode cX6_weight 6 = .ok (.aload_n 0, 1) := by decide +kernel
theorem dX6_weight_7 : decode cX6_weight 7 = .ok (.iload_n 1, 1) := by decide +kernel
theorem dX6_weight_8 : decode cX6_weight 8 = .ok (.iconst 4, 1) := by decide +kernel
theorem dX6_weight_9 : decode cX6_weight 9 = .ok (.invokevirtual 80, 3) := by decide +kernel
theorem dX6_weight_12 : decode cX6_weight 12 = .ok (.aload_n 0, 1) := by decide +kernel
theorem dX6_weight_13 : decode cX6_weight 13 = .ok (.iload_n 1, 1) := by decide +kernel
theorem dX6_weight_14 : decode cX6_weight 14 = .ok (.iconst 2, 1) := by decide +kernel
theorem dX6_weight_15 : decode cX6_weight 15 = .ok (.invokevirtual 80, 3) := by decide +kernel
theorem dX6_weight_18 : decode cX6_weight 18 = .ok (.aload_n 0, 1) := by decide +kernel
theorem dX6_weight_19 : decode cX6_weight 19 = .ok (.iload_n 1, 1) := by decide +kernel
theorem dX6_weight_20 : decode cX6_weight 20 = .ok (.iconst 3, 1) := by decide +kernel
theorem dX6_weight_21 : decode cX6_weight 21 = .ok (.invokevirtual 80, 3) := by decide +kernel
theorem dX6_weight_24 : decode cX6_weight 24 = .ok (.invokestatic 83, 3) := by decide +kernel
theorem dX6_weight_27 : decode cX6_weight 27 = .ok (.ireturn, 1) := by decide +kernel
theorem dX6_unit_0 : decode cX6_unit 0 = .ok (.aload_n 0, 1) := by decide +kernel
theorem dX6_unit_1 : decode cX6_unit 1 = .ok (.iload_n 1, 1) := by decide +kernel
theorem dX6_unit_2 : decode cX6_unit 2 = .ok (.iconst 0, 1) := by decide +kernel
theorem dX6_unit_3 : decode cX6_unit 3 = .ok (.invokevirtual 80, 3) := by decide +kernel
theorem dX6_unit_6 : decode cX6_unit 6 = .ok (.aload_n 0, 1) := by decide +kernel
theorem dX6_unit_7 : decode cX6_unit 7 = .ok (.iload_n 1, 1) := by decide +kernel
theorem dX6_unit_8 : decode cX6_unit 8 = .ok (.iconst 1, 1) := by decide +kernel
theorem dX6_unit_9 : decode cX6_unit 9 = .ok (.invokevirtual 80, 3) := by decide +kernel
theorem dX6_unit_12 : decode cX6_unit 12 = .ok (.invokestatic 87, 3) := by decide +kernel
theorem dX6_unit_15 : decode cX6_unit 15 = .ok (.aload_n 0, 1) := by decide +kernel
theorem dX6_unit_16 : decode cX6_unit 16 = .ok (.iload_n 1, 1) := by decide +kernel
theorem dX6_unit_17 : decode cX6_unit 17 = .ok (.iconst 2, 1) := by decide +kernel
theorem dX6_unit_18 : decode cX6_unit 18 = .ok (.iload_n 2, 1) := by decide +kernel
theorem dX6_unit_19 : decode cX6_unit 19 = .ok (.iadd, 1) := by decide +kernel
theorem dX6_unit_20 : decode cX6_unit 20 = .ok (.invokevirtual 80, 3) := by decide +kernel
theorem dX6_unit_23 : decode cX6_unit 23 = .ok (.imul, 1) := by decide +kernel
theorem dX6_unit_24 : decode cX6_unit 24 = .ok (.ireturn, 1) := by decide +kernel
theorem dX6_step_0 : decode cX6_step 0 = .ok (.aload_n 0, 1) := by decide +kernel
theorem dX6_step_1 : decode cX6_step 1 = .ok (.iload_n 1, 1) := by decide +kernel
theorem dX6_step_2 : decode cX6_step 2 = .ok (.iconst 4, 1) := by decide +kernel
theorem dX6_step_3 : decode cX6_step 3 = .ok (.invokevirtual 80, 3) := by decide +kernel
theorem dX6_step_6 : decode cX6_step 6 = .ok (.aload_n 0, 1) := by decide +kernel
theorem dX6_step_7 : decode cX6_step 7 = .ok (.iload_n 1, 1) := by decide +kernel
theorem dX6_step_8 : decode cX6_step 8 = .ok (.iload_n 2, 1) := by decide +kernel
theorem dX6_step_9 : decode cX6_step 9 = .ok (.invokevirtual 90, 3) := by decide +kernel
theorem dX6_step_12 : decode cX6_step 12 = .ok (.imul, 1) := by decide +kernel
theorem dX6_step_13 : decode cX6_step 13 = .ok (.ireturn, 1) := by decide +kernel
theorem dX6_missOf_0 : decode cX6_missOf 0 = .ok (.iconst 0, 1) := by decide +kernel
theorem dX6_missOf_1 : decode cX6_missOf 1 = .ok (.istore_n 2, 1) := by decide +kernel
theorem dX6_missOf_2 : decode cX6_missOf 2 = .ok (.iconst 0, 1) := by decide +kernel
theorem dX6_missOf_3 : decode cX6_missOf 3 = .ok (.istore_n 3, 1) := by decide +kernel
theorem dX6_missOf_4 : decode cX6_missOf 4 = .ok (.iload_n 3, 1) := by decide +kernel
theorem dX6_missOf_5 : decode cX6_missOf 5 = .ok (.aload_n 0, 1) := by decide +kernel
theorem dX6_missOf_6 : decode cX6_missOf 6 = .ok (.invokevirtual 63, 3) := by decide +kernel
theorem dX6_missOf_9 : decode cX6_missOf 9 = .ok (.if_icmp .ge 18, 3) := by decide +kernel
theorem dX6_missOf_12 : decode cX6_missOf 12 = .ok (.iload_n 2, 1) := by decide +kernel
theorem dX6_missOf_13 : decode cX6_missOf 13 = .ok (.aload_n 0, 1) := by decide +kernel
theorem dX6_missOf_14 : decode cX6_missOf 14 = .ok (.iload_n 3, 1) := by decide +kernel
theorem dX6_missOf_15 : decode cX6_missOf 15 = .ok (.iload_n 1, 1) := by decide +kernel
theorem dX6_missOf_16 : decode cX6_missOf 16 = .ok (.invokevirtual 93, 3) := by decide +kernel
theorem dX6_missOf_19 : decode cX6_missOf 19 = .ok (.iadd, 1) := by decide +kernel
theorem dX6_missOf_20 : decode cX6_missOf 20 = .ok (.istore_n 2, 1) := by decide +kernel
theorem dX6_missOf_21 : decode cX6_missOf 21 = .ok (.iinc 3 1, 3) := by decide +kernel
theorem dX6_missOf_24 : decode cX6_missOf 24 = .ok (.goto (-20), 3) := by decide +kernel
theorem dX6_missOf_27 : decode cX6_missOf 27 = .ok (.iload_n 2, 1) := by decide +kernel
theorem dX6_missOf_28 : decode cX6_missOf 28 = .ok (.ireturn, 1) := by decide +kernel
theorem dX6_allWeights_0 : decode cX6_allWeights 0 = .ok (.iconst 0, 1) := by decide +kernel
theorem dX6_allWeights_1 : decode cX6_allWeights 1 = .ok (.istore_n 1, 1) := by decide +kernel
theorem dX6_allWeights_2 : decode cX6_allWeights 2 = .ok (.iconst 0, 1) := by decide +kernel
theorem dX6_allWeights_3 : decode cX6_allWeights 3 = .ok (.istore_n 2, 1) := by decide +kernel
theorem dX6_allWeights_4 : decode cX6_allWeights 4 = .ok (.iload_n 2, 1) := by decide +kernel
theorem dX6_allWeights_5 : decode cX6_allWeights 5 = .ok (.aload_n 0, 1) := by decide +kernel
theorem dX6_allWeights_6 : decode cX6_allWeights 6 = .ok (.invokevirtual 63, 3) := by decide +kernel
theorem dX6_allWeights_9 : decode cX6_allWeights 9 = .ok (.if_icmp .ge 17, 3) := by decide +kernel
theorem dX6_allWeights_12 : decode cX6_allWeights 12 = .ok (.iload_n 1, 1) := by decide +kernel
theorem dX6_allWeights_13 : decode cX6_allWeights 13 = .ok (.aload_n 0, 1) := by decide +kernel
theorem dX6_allWeights_14 : decode cX6_allWeights 14 = .ok (.iload_n 2, 1) := by decide +kernel
theorem dX6_allWeights_15 : decode cX6_allWeights 15 = .ok (.invokevirtual 96, 3) := by decide +kernel
theorem dX6_allWeights_18 : decode cX6_allWeights 18 = .ok (.iadd, 1) := by decide +kernel
theorem dX6_allWeights_19 : decode cX6_allWeights 19 = .ok (.istore_n 1, 1) := by decide +kernel
theorem dX6_allWeights_20 : decode cX6_allWeights 20 = .ok (.iinc 2 1, 3) := by decide +kernel
theorem dX6_allWeights_23 : decode cX6_allWeights 23 = .ok (.goto (-19), 3) := by decide +kernel
theorem dX6_allWeights_26 : decode cX6_allWeights 26 = .ok (.iload_n 1, 1) := by decide +kernel
theorem dX6_allWeights_27 : decode cX6_allWeights 27 = .ok (.ireturn, 1) := by decide +kernel
theorem dX6_keepsAside_0 : decode cX6_keepsAside 0 = .ok (.aload_n 0, 1) := by decide +kernel
theorem dX6_keepsAside_1 : decode cX6_keepsAside 1 = .ok (.getfield 23, 3) := by decide +kernel
theorem dX6_keepsAside_4 : decode cX6_keepsAside 4 = .ok (.iconst 0, 1) := by decide +kernel
theorem dX6_keepsAside_5 : decode cX6_keepsAside 5 = .ok (.aload_n 0, 1) := by decide +kernel
theorem dX6_keepsAside_6 : decode cX6_keepsAside 6 = .ok (.getfield 29, 3) := by decide +kernel
theorem dX6_keepsAside_9 : decode cX6_keepsAside 9 = .ok (.iconst 0, 1) := by decide +kernel
theorem dX6_keepsAside_10 : decode cX6_keepsAside 10 = .ok (.invokestatic 99, 3) := by decide +kernel
theorem dX6_keepsAside_13 : decode cX6_keepsAside 13 = .ok (.return_, 1) := by decide +kernel
theorem dX6_changed_0 : decode cX6_changed 0 = .ok (.aload_n 0, 1) := by decide +kernel
theorem dX6_changed_1 : decode cX6_changed 1 = .ok (.getfield 103, 3) := by decide +kernel
theorem dX6_changed_4 : decode cX6_changed 4 = .ok (.bipush 8, 2) := by decide +kernel
theorem dX6_changed_6 : decode cX6_changed 6 = .ok (.if_icmp .ne 44, 3) := by decide +kernel
theorem dX6_changed_9 : decode cX6_changed 9 = .ok (.bipush 41, 2) := by decide +kernel
theorem dX6_changed_11 : decode cX6_changed 11 = .ok (.istore_n 1, 1) := by decide +kernel
theorem dX6_changed_12 : decode cX6_changed 12 = .ok (.iload_n 1, 1) := by decide +kernel
theorem dX6_changed_13 : decode cX6_changed 13 = .ok (.sipush 328, 3) := by decide +kernel
theorem dX6_changed_16 : decode cX6_changed 16 = .ok (.if_icmp .ge 24, 3) := by decide +kernel
theorem dX6_changed_19 : decode cX6_changed 19 = .ok (.aload_n 0, 1) := by decide +kernel
theorem dX6_changed_20 : decode cX6_changed 20 = .ok (.getfield 26, 3) := by decide +kernel
theorem dX6_changed_23 : decode cX6_changed 23 = .ok (.iload_n 1, 1) := by decide +kernel
theorem dX6_changed_24 : decode cX6_changed 24 = .ok (.bipush 41, 2) := by decide +kernel
theorem dX6_changed_26 : decode cX6_changed 26 = .ok (.isub, 1) := by decide +kernel
theorem dX6_changed_27 : decode cX6_changed 27 = .ok (.aload_n 0, 1) := by decide +kernel
theorem dX6_changed_28 : decode cX6_changed 28 = .ok (.getfield 26, 3) := by decide +kernel
theorem dX6_changed_31 : decode cX6_changed 31 = .ok (.iload_n 1, 1) := by decide +kernel
theorem dX6_changed_32 : decode cX6_changed 32 = .ok (.iaload, 1) := by decide +kernel
theorem dX6_changed_33 : decode cX6_changed 33 = .ok (.iastore, 1) := by decide +kernel
theorem dX6_changed_34 : decode cX6_changed 34 = .ok (.iinc 1 1, 3) := by decide +kernel
theorem dX6_changed_37 : decode cX6_changed 37 = .ok (.goto (-25), 3) := by decide +kernel
theorem dX6_changed_40 : decode cX6_changed 40 = .ok (.aload_n 0, 1) := by decide +kernel
theorem dX6_changed_41 : decode cX6_changed 41 = .ok (.dup, 1) := by decide +kernel
theorem dX6_changed_42 : decode cX6_changed 42 = .ok (.getfield 103, 3) := by decide +kernel
theorem dX6_changed_45 : decode cX6_changed 45 = .ok (.iconst 1, 1) := by decide +kernel
theorem dX6_changed_46 : decode cX6_changed 46 = .ok (.isub, 1) := by decide +kernel
theorem dX6_changed_47 : decode cX6_changed 47 = .ok (.putfield 103, 3) := by decide +kernel
theorem dX6_changed_50 : decode cX6_changed 50 = .ok (.aload_n 0, 1) := by decide +kernel
theorem dX6_changed_51 : decode cX6_changed 51 = .ok (.getfield 29, 3) := by decide +kernel
theorem dX6_changed_54 : decode cX6_changed 54 = .ok (.iconst 0, 1) := by decide +kernel
theorem dX6_changed_55 : decode cX6_changed 55 = .ok (.aload_n 0, 1) := by decide +kernel
theorem dX6_changed_56 : decode cX6_changed 56 = .ok (.getfield 26, 3) := by decide +kernel
theorem dX6_changed_59 : decode cX6_changed 59 = .ok (.aload_n 0, 1) := by decide +kernel
theorem dX6_changed_60 : decode cX6_changed 60 = .ok (.getfield 103, 3) := by decide +kernel
theorem dX6_changed_63 : decode cX6_changed 63 = .ok (.bipush 41, 2) := by decide +kernel
theorem dX6_changed_65 : decode cX6_changed 65 = .ok (.imul, 1) := by decide +kernel
theorem dX6_changed_66 : decode cX6_changed 66 = .ok (.invokestatic 99, 3) := by decide +kernel
theorem dX6_changed_69 : decode cX6_changed 69 = .ok (.aload_n 0, 1) := by decide +kernel
theorem dX6_changed_70 : decode cX6_changed 70 = .ok (.dup, 1) := by decide +kernel
theorem dX6_changed_71 : decode cX6_changed 71 = .ok (.getfield 103, 3) := by decide +kernel
theorem dX6_changed_74 : decode cX6_changed 74 = .ok (.iconst 1, 1) := by decide +kernel
theorem dX6_changed_75 : decode cX6_changed 75 = .ok (.iadd, 1) := by decide +kernel
theorem dX6_changed_76 : decode cX6_changed 76 = .ok (.putfield 103, 3) := by decide +kernel
theorem dX6_changed_79 : decode cX6_changed 79 = .ok (.return_, 1) := by decide +kernel
theorem dX6_undo_0 : decode cX6_undo 0 = .ok (.aload_n 0, 1) := by decide +kernel
theorem dX6_undo_1 : decode cX6_undo 1 = .ok (.getfield 103, 3) := by decide +kernel
theorem dX6_undo_4 : decode cX6_undo 4 = .ok (.ifCond .ne 10, 3) := by decide +kernel
theorem dX6_undo_7 : decode cX6_undo 7 = .ok (.aload_n 0, 1) := by decide +kernel
theorem dX6_undo_8 : decode cX6_undo 8 = .ok (.bipush (-3), 2) := by decide +kernel
theorem dX6_undo_10 : decode cX6_undo 10 = .ok (.invokevirtual 13, 3) := by decide +kernel
theorem dX6_undo_13 : decode cX6_undo 13 = .ok (.ireturn, 1) := by decide +kernel
theorem dX6_undo_14 : decode cX6_undo 14 = .ok (.aload_n 0, 1) := by decide +kernel
theorem dX6_undo_15 : decode cX6_undo 15 = .ok (.dup, 1) := by decide +kernel
theorem dX6_undo_16 : decode cX6_undo 16 = .ok (.getfield 103, 3) := by decide +kernel
theorem dX6_undo_19 : decode cX6_undo 19 = .ok (.iconst 1, 1) := by decide +kernel
theorem dX6_undo_20 : decode cX6_undo 20 = .ok (.isub, 1) := by decide +kernel
theorem dX6_undo_21 : decode cX6_undo 21 = .ok (.putfield 103, 3) := by decide +kernel
theorem dX6_undo_24 : decode cX6_undo 24 = .ok (.aload_n 0, 1) := by decide +kernel
theorem dX6_undo_25 : decode cX6_undo 25 = .ok (.getfield 26, 3) := by decide +kernel
theorem dX6_undo_28 : decode cX6_undo 28 = .ok (.aload_n 0, 1) := by decide +kernel
theorem dX6_undo_29 : decode cX6_undo 29 = .ok (.getfield 103, 3) := by decide +kernel
theorem dX6_undo_32 : decode cX6_undo 32 = .ok (.bipush 41, 2) := by decide +kernel
theorem dX6_undo_34 : decode cX6_undo 34 = .ok (.imul, 1) := by decide +kernel
theorem dX6_undo_35 : decode cX6_undo 35 = .ok (.aload_n 0, 1) := by decide +kernel
theorem dX6_undo_36 : decode cX6_undo 36 = .ok (.getfield 23, 3) := by decide +kernel
theorem dX6_undo_39 : decode cX6_undo 39 = .ok (.iconst 0, 1) := by decide +kernel
theorem dX6_undo_40 : decode cX6_undo 40 = .ok (.invokestatic 99, 3) := by decide +kernel
theorem dX6_undo_43 : decode cX6_undo 43 = .ok (.aload_n 0, 1) := by decide +kernel
theorem dX6_undo_44 : decode cX6_undo 44 = .ok (.getfield 103, 3) := by decide +kernel
theorem dX6_undo_47 : decode cX6_undo 47 = .ok (.ireturn, 1) := by decide +kernel
theorem dX6_wrongSide_0 : decode cX6_wrongSide 0 = .ok (.iload_n 1, 1) := by decide +kernel
theorem dX6_wrongSide_1 : decode cX6_wrongSide 1 = .ok (.bipush (-9), 2) := by decide +kernel
theorem dX6_wrongSide_3 : decode cX6_wrongSide 3 = .ok (.if_icmp .lt 14, 3) := by decide +kernel
theorem dX6_wrongSide_6 : decode cX6_wrongSide 6 = .ok (.iload_n 2, 1) := by decide +kernel
theorem dX6_wrongSide_7 : decode cX6_wrongSide 7 = .ok (.bipush (-9), 2) := by decide +kernel
theorem dX6_wrongSide_9 : decode cX6_wrongSide 9 = .ok (.if_icmp .lt 8, 3) := by decide +kernel
theorem dX6_wrongSide_12 : decode cX6_wrongSide 12 = .ok (.iload_n 3, 1) := by decide +kernel
theorem dX6_wrongSide_13 : decode cX6_wrongSide 13 = .ok (.iconst 1, 1) := by decide +kernel
theorem dX6_wrongSide_14 : decode cX6_wrongSide 14 = .ok (.if_icmp .ge 6, 3) := by decide +kernel
theorem dX6_wrongSide_17 : decode cX6_wrongSide 17 = .ok (.bipush (-4), 2) := by decide +kernel
theorem dX6_wrongSide_19 : decode cX6_wrongSide 19 = .ok (.ireturn, 1) := by decide +kernel
theorem dX6_wrongSide_20 : decode cX6_wrongSide 20 = .ok (.iload_n 1, 1) := by decide +kernel
theorem dX6_wrongSide_21 : decode cX6_wrongSide 21 = .ok (.bipush 9, 2) := by decide +kernel
theorem dX6_wrongSide_23 : decode cX6_wrongSide 23 = .ok (.if_icmp .gt 24, 3) := by decide +kernel
theorem dX6_wrongSide_26 : decode cX6_wrongSide 26 = .ok (.iload_n 2, 1) := by decide +kernel
theorem dX6_wrongSide_27 : decode cX6_wrongSide 27 = .ok (.bipush 9, 2) := by decide +kernel
theorem dX6_wrongSide_29 : decode cX6_wrongSide 29 = .ok (.if_icmp .gt 18, 3) := by decide +kernel
theorem dX6_wrongSide_32 : decode cX6_wrongSide 32 = .ok (.iload_n 3, 1) := by decide +kernel
theorem dX6_wrongSide_33 : decode cX6_wrongSide 33 = .ok (.bipush 9, 2) := by decide +kernel
theorem dX6_wrongSide_35 : decode cX6_wrongSide 35 = .ok (.if_icmp .gt 12, 3) := by decide +kernel
theorem dX6_wrongSide_38 : decode cX6_wrongSide 38 = .ok (.aload_n 0, 1) := by decide +kernel
theorem dX6_wrongSide_39 : decode cX6_wrongSide 39 = .ok (.invokevirtual 63, 3) := by decide +kernel
theorem dX6_wrongSide_42 : decode cX6_wrongSide 42 = .ok (.bipush 8, 2) := by decide +kernel
theorem dX6_wrongSide_44 : decode cX6_wrongSide 44 = .ok (.if_icmp .ne 6, 3) := by decide +kernel
theorem dX6_wrongSide_47 : decode cX6_wrongSide 47 = .ok (.bipush (-6), 2) := by decide +kernel
theorem dX6_wrongSide_49 : decode cX6_wrongSide 49 = .ok (.ireturn, 1) := by decide +kernel
theorem dX6_wrongSide_50 : decode cX6_wrongSide 50 = .ok (.iload_n 1, 1) := by decide +kernel
theorem dX6_wrongSide_51 : decode cX6_wrongSide 51 = .ok (.ifCond .ne 12, 3) := by decide +kernel
theorem dX6_wrongSide_54 : decode cX6_wrongSide 54 = .ok (.iload_n 2, 1) := by decide +kernel
theorem dX6_wrongSide_55 : decode cX6_wrongSide 55 = .ok (.ifCond .ne 8, 3) := by decide +kernel
theorem dX6_wrongSide_58 : decode cX6_wrongSide 58 = .ok (.bipush (-3), 2) := by decide +kernel
theorem dX6_wrongSide_60 : decode cX6_wrongSide 60 = .ok (.goto 4, 3) := by decide +kernel
theorem dX6_wrongSide_63 : decode cX6_wrongSide 63 = .ok (.iconst 0, 1) := by decide +kernel
theorem dX6_wrongSide_64 : decode cX6_wrongSide 64 = .ok (.ireturn, 1) := by decide +kernel
theorem dX6_insertAt_0 : decode cX6_insertAt 0 = .ok (.iconst 5, 1) := by decide +kernel
theorem dX6_insertAt_1 : decode cX6_insertAt 1 = .ok (.aload_n 0, 1) := by decide +kernel
theorem dX6_insertAt_2 : decode cX6_insertAt 2 = .ok (.invokevirtual 63, 3) := by decide +kernel
theorem dX6_insertAt_5 : decode cX6_insertAt 5 = .ok (.iconst 1, 1) := by decide +kernel
theorem dX6_insertAt_6 : decode cX6_insertAt 6 = .ok (.iadd, 1) := by decide +kernel
theorem dX6_insertAt_7 : decode cX6_insertAt 7 = .ok (.imul, 1) := by decide +kernel
theorem dX6_insertAt_8 : decode cX6_insertAt 8 = .ok (.iconst 1, 1) := by decide +kernel
theorem dX6_insertAt_9 : decode cX6_insertAt 9 = .ok (.isub, 1) := by decide +kernel
theorem dX6_insertAt_10 : decode cX6_insertAt 10 = .ok (.istore 5, 2) := by decide +kernel
theorem dX6_insertAt_12 : decode cX6_insertAt 12 = .ok (.iload 5, 2) := by decide +kernel
theorem dX6_insertAt_14 : decode cX6_insertAt 14 = .ok (.iconst 5, 1) := by decide +kernel
theorem dX6_insertAt_15 : decode cX6_insertAt 15 = .ok (.iload_n 1, 1) := by decide +kernel
theorem dX6_insertAt_16 : decode cX6_insertAt 16 = .ok (.iconst 1, 1) := by decide +kernel
theorem dX6_insertAt_17 : decode cX6_insertAt 17 = .ok (.iadd, 1) := by decide +kernel
theorem dX6_insertAt_18 : decode cX6_insertAt 18 = .ok (.imul, 1) := by decide +kernel
theorem dX6_insertAt_19 : decode cX6_insertAt 19 = .ok (.if_icmp .lt 25, 3) := by decide +kernel
theorem dX6_insertAt_22 : decode cX6_insertAt 22 = .ok (.aload_n 0, 1) := by decide +kernel
theorem dX6_insertAt_23 : decode cX6_insertAt 23 = .ok (.getfield 23, 3) := by decide +kernel
theorem dX6_insertAt_26 : decode cX6_insertAt 26 = .ok (.iload 5, 2) := by decide +kernel
theorem dX6_insertAt_28 : decode cX6_insertAt 28 = .ok (.aload_n 0, 1) := by decide +kernel
theorem dX6_insertAt_29 : decode cX6_insertAt 29 = .ok (.getfield 23, 3) := by decide +kernel
theorem dX6_insertAt_32 : decode cX6_insertAt 32 = .ok (.iload 5, 2) := by decide +kernel
theorem dX6_insertAt_34 : decode cX6_insertAt 34 = .ok (.iconst 5, 1) := by decide +kernel
theorem dX6_insertAt_35 : decode cX6_insertAt 35 = .ok (.isub, 1) := by decide +kernel
theorem dX6_insertAt_36 : decode cX6_insertAt 36 = .ok (.iaload, 1) := by decide +kernel
theorem dX6_insertAt_37 : decode cX6_insertAt 37 = .ok (.iastore, 1) := by decide +kernel
theorem dX6_insertAt_38 : decode cX6_insertAt 38 = .ok (.iinc 5 (-1), 3) := by decide +kernel
theorem dX6_insertAt_41 : decode cX6_insertAt 41 = .ok (.goto (-29), 3) := by decide +kernel
theorem dX6_insertAt_44 : decode cX6_insertAt 44 = .ok (.aload_n 0, 1) := by decide +kernel
theorem dX6_insertAt_45 : decode cX6_insertAt 45 = .ok (.getfield 23, 3) := by decide +kernel
theorem dX6_insertAt_48 : decode cX6_insertAt 48 = .ok (.iconst 5, 1) := by decide +kernel
theorem dX6_insertAt_49 : decode cX6_insertAt 49 = .ok (.iload_n 1, 1) := by decide +kernel
theorem dX6_insertAt_50 : decode cX6_insertAt 50 = .ok (.imul, 1) := by decide +kernel
theorem dX6_insertAt_51 : decode cX6_insertAt 51 = .ok (.iconst 0, 1) := by decide +kernel
theorem dX6_insertAt_52 : decode cX6_insertAt 52 = .ok (.iadd, 1) := by decide +kernel
theorem dX6_insertAt_53 : decode cX6_insertAt 53 = .ok (.iconst 0, 1) := by decide +kernel
theorem dX6_insertAt_54 : decode cX6_insertAt 54 = .ok (.iastore, 1) := by decide +kernel
theorem dX6_insertAt_55 : decode cX6_insertAt 55 = .ok (.aload_n 0, 1) := by decide +kernel
theorem dX6_insertAt_56 : decode cX6_insertAt 56 = .ok (.getfield 23, 3) := by decide +kernel
theorem dX6_insertAt_59 : decode cX6_insertAt 59 = .ok (.iconst 5, 1) := by decide +kernel
theorem dX6_insertAt_60 : decode cX6_insertAt 60 = .ok (.iload_n 1, 1) := by decide +kernel
theorem dX6_insertAt_61 : decode cX6_insertAt 61 = .ok (.imul, 1) := by decide +kernel
theorem dX6_insertAt_62 : decode cX6_insertAt 62 = .ok (.iconst 1, 1) := by decide +kernel
theorem dX6_insertAt_63 : decode cX6_insertAt 63 = .ok (.iadd, 1) := by decide +kernel
theorem dX6_insertAt_64 : decode cX6_insertAt 64 = .ok (.iconst 0, 1) := by decide +kernel
theorem dX6_insertAt_65 : decode cX6_insertAt 65 = .ok (.iastore, 1) := by decide +kernel
theorem dX6_insertAt_66 : decode cX6_insertAt 66 = .ok (.aload_n 0, 1) := by decide +kernel
theorem dX6_insertAt_67 : decode cX6_insertAt 67 = .ok (.getfield 23, 3) := by decide +kernel
theorem dX6_insertAt_70 : decode cX6_insertAt 70 = .ok (.iconst 5, 1) := by decide +kernel
theorem dX6_insertAt_71 : decode cX6_insertAt 71 = .ok (.iload_n 1, 1) := by decide +kernel
theorem dX6_insertAt_72 : decode cX6_insertAt 72 = .ok (.imul, 1) := by decide +kernel
theorem dX6_insertAt_73 : decode cX6_insertAt 73 = .ok (.iconst 2, 1) := by decide +kernel
theorem dX6_insertAt_74 : decode cX6_insertAt 74 = .ok (.iadd, 1) := by decide +kernel
theorem dX6_insertAt_75 : decode cX6_insertAt 75 = .ok (.iload_n 2, 1) := by decide +kernel
theorem dX6_insertAt_76 : decode cX6_insertAt 76 = .ok (.iastore, 1) := by decide +kernel
theorem dX6_insertAt_77 : decode cX6_insertAt 77 = .ok (.aload_n 0, 1) := by decide +kernel
theorem dX6_insertAt_78 : decode cX6_insertAt 78 = .ok (.getfield 23, 3) := by decide +kernel
theorem dX6_insertAt_81 : decode cX6_insertAt 81 = .ok (.iconst 5, 1) := by decide +kernel
theorem dX6_insertAt_82 : decode cX6_insertAt 82 = .ok (.iload_n 1, 1) := by decide +kernel
theorem dX6_insertAt_83 : decode cX6_insertAt 83 = .ok (.imul, 1) := by decide +kernel
theorem dX6_insertAt_84 : decode cX6_insertAt 84 = .ok (.iconst 3, 1) := by decide +kernel
theorem dX6_insertAt_85 : decode cX6_insertAt 85 = .ok (.iadd, 1) := by decide +kernel
theorem dX6_insertAt_86 : decode cX6_insertAt 86 = .ok (.iload_n 3, 1) := by decide +kernel
theorem dX6_insertAt_87 : decode cX6_insertAt 87 = .ok (.iastore, 1) := by decide +kernel
theorem dX6_insertAt_88 : decode cX6_insertAt 88 = .ok (.aload_n 0, 1) := by decide +kernel
theorem dX6_insertAt_89 : decode cX6_insertAt 89 = .ok (.getfield 23, 3) := by decide +kernel
theorem dX6_insertAt_92 : decode cX6_insertAt 92 = .ok (.iconst 5, 1) := by decide +kernel
theorem dX6_insertAt_93 : decode cX6_insertAt 93 = .ok (.iload_n 1, 1) := by decide +kernel
theorem dX6_insertAt_94 : decode cX6_insertAt 94 = .ok (.imul, 1) := by decide +kernel
theorem dX6_insertAt_95 : decode cX6_insertAt 95 = .ok (.iconst 4, 1) := by decide +kernel
theorem dX6_insertAt_96 : decode cX6_insertAt 96 = .ok (.iadd, 1) := by decide +kernel
theorem dX6_insertAt_97 : decode cX6_insertAt 97 = .ok (.iload 4, 2) := by decide +kernel
theorem dX6_insertAt_99 : decode cX6_insertAt 99 = .ok (.iastore, 1) := by decide +kernel
theorem dX6_insertAt_100 : decode cX6_insertAt 100 = .ok (.aload_n 0, 1) := by decide +kernel
theorem dX6_insertAt_101 : decode cX6_insertAt 101 = .ok (.getfield 23, 3) := by decide +kernel
theorem dX6_insertAt_104 : decode cX6_insertAt 104 = .ok (.bipush 40, 2) := by decide +kernel
theorem dX6_insertAt_106 : decode cX6_insertAt 106 = .ok (.dup2, 1) := by decide +kernel
theorem dX6_insertAt_107 : decode cX6_insertAt 107 = .ok (.iaload, 1) := by decide +kernel
theorem dX6_insertAt_108 : decode cX6_insertAt 108 = .ok (.iconst 1, 1) := by decide +kernel
theorem dX6_insertAt_109 : decode cX6_insertAt 109 = .ok (.iadd, 1) := by decide +kernel
theorem dX6_insertAt_110 : decode cX6_insertAt 110 = .ok (.iastore, 1) := by decide +kernel
theorem dX6_insertAt_111 : decode cX6_insertAt 111 = .ok (.return_, 1) := by decide +kernel
theorem dX6_goneAt_0 : decode cX6_goneAt 0 = .ok (.iconst 5, 1) := by decide +kernel
theorem dX6_goneAt_1 : decode cX6_goneAt 1 = .ok (.iload_n 1, 1) := by decide +kernel
theorem dX6_goneAt_2 : decode cX6_goneAt 2 = .ok (.imul, 1) := by decide +kernel
theorem dX6_goneAt_3 : decode cX6_goneAt 3 = .ok (.istore_n 2, 1) := by decide +kernel
theorem dX6_goneAt_4 : decode cX6_goneAt 4 = .ok (.iload_n 2, 1) := by decide +kernel
theorem dX6_goneAt_5 : decode cX6_goneAt 5 = .ok (.iconst 5, 1) := by decide +kernel
theorem dX6_goneAt_6 : decode cX6_goneAt 6 = .ok (.aload_n 0, 1) := by decide +kernel
theorem dX6_goneAt_7 : decode cX6_goneAt 7 = .ok (.invokevirtual 63, 3) := by decide +kernel
theorem dX6_goneAt_10 : decode cX6_goneAt 10 = .ok (.iconst 1, 1) := by decide +kernel
theorem dX6_goneAt_11 : decode cX6_goneAt 11 = .ok (.isub, 1) := by decide +kernel
theorem dX6_goneAt_12 : decode cX6_goneAt 12 = .ok (.imul, 1) := by decide +kernel
theorem dX6_goneAt_13 : decode cX6_goneAt 13 = .ok (.if_icmp .ge 23, 3) := by decide +kernel
theorem dX6_goneAt_16 : decode cX6_goneAt 16 = .ok (.aload_n 0, 1) := by decide +kernel
theorem dX6_goneAt_17 : decode cX6_goneAt 17 = .ok (.getfield 23, 3) := by decide +kernel
theorem dX6_goneAt_20 : decode cX6_goneAt 20 = .ok (.iload_n 2, 1) := by decide +kernel
theorem dX6_goneAt_21 : decode cX6_goneAt 21 = .ok (.aload_n 0, 1) := by decide +kernel
theorem dX6_goneAt_22 : decode cX6_goneAt 22 = .ok (.getfield 23, 3) := by decide +kernel
theorem dX6_goneAt_25 : decode cX6_goneAt 25 = .ok (.iload_n 2, 1) := by decide +kernel
theorem dX6_goneAt_26 : decode cX6_goneAt 26 = .ok (.iconst 5, 1) := by decide +kernel
theorem dX6_goneAt_27 : decode cX6_goneAt 27 = .ok (.iadd, 1) := by decide +kernel
theorem dX6_goneAt_28 : decode cX6_goneAt 28 = .ok (.iaload, 1) := by decide +kernel
theorem dX6_goneAt_29 : decode cX6_goneAt 29 = .ok (.iastore, 1) := by decide +kernel
theorem dX6_goneAt_30 : decode cX6_goneAt 30 = .ok (.iinc 2 1, 3) := by decide +kernel
theorem dX6_goneAt_33 : decode cX6_goneAt 33 = .ok (.goto (-29), 3) := by decide +kernel
theorem dX6_goneAt_36 : decode cX6_goneAt 36 = .ok (.aload_n 0, 1) := by decide +kernel
theorem dX6_goneAt_37 : decode cX6_goneAt 37 = .ok (.getfield 23, 3) := by decide +kernel
theorem dX6_goneAt_40 : decode cX6_goneAt 40 = .ok (.bipush 40, 2) := by decide +kernel
theorem dX6_goneAt_42 : decode cX6_goneAt 42 = .ok (.dup2, 1) := by decide +kernel
theorem dX6_goneAt_43 : decode cX6_goneAt 43 = .ok (.iaload, 1) := by decide +kernel
theorem dX6_goneAt_44 : decode cX6_goneAt 44 = .ok (.iconst 1, 1) := by decide +kernel
theorem dX6_goneAt_45 : decode cX6_goneAt 45 = .ok (.isub, 1) := by decide +kernel
theorem dX6_goneAt_46 : decode cX6_goneAt 46 = .ok (.iastore, 1) := by decide +kernel
theorem dX6_goneAt_47 : decode cX6_goneAt 47 = .ok (.return_, 1) := by decide +kernel
theorem dX6_turns_0 : decode cX6_turns 0 = .ok (.aload_n 0, 1) := by decide +kernel
theorem dX6_turns_1 : decode cX6_turns 1 = .ok (.invokevirtual 63, 3) := by decide +kernel
theorem dX6_turns_4 : decode cX6_turns 4 = .ok (.istore_n 1, 1) := by decide +kernel
theorem dX6_turns_5 : decode cX6_turns 5 = .ok (.iconst 0, 1) := by decide +kernel
theorem dX6_turns_6 : decode cX6_turns 6 = .ok (.istore_n 2, 1) := by decide +kernel
theorem dX6_turns_7 : decode cX6_turns 7 = .ok (.iload_n 2, 1) := by decide +kernel
theorem dX6_turns_8 : decode cX6_turns 8 = .ok (.iload_n 1, 1) := by decide +kernel
theorem dX6_turns_9 : decode cX6_turns 9 = .ok (.if_icmp .ge 66, 3) := by decide +kernel
theorem dX6_turns_12 : decode cX6_turns 12 = .ok (.iconst 0, 1) := by decide +kernel
theorem dX6_turns_13 : decode cX6_turns 13 = .ok (.istore_n 3, 1) := by decide +kernel
theorem dX6_turns_14 : decode cX6_turns 14 = .ok (.iload_n 3, 1) := by decide +kernel
theorem dX6_turns_15 : decode cX6_turns 15 = .ok (.iconst 5, 1) := by decide +kernel
theorem dX6_turns_16 : decode cX6_turns 16 = .ok (.if_icmp .ge 53, 3) := by decide +kernel
theorem dX6_turns_19 : decode cX6_turns 19 = .ok (.aload_n 0, 1) := by decide +kernel
theorem dX6_turns_20 : decode cX6_turns 20 = .ok (.getfield 29, 3) := by decide +kernel
theorem dX6_turns_23 : decode cX6_turns 23 = .ok (.iconst 5, 1) := by decide +kernel
theorem dX6_turns_24 : decode cX6_turns 24 = .ok (.iload_n 1, 1) := by decide +kernel
theorem dX6_turns_25 : decode cX6_turns 25 = .ok (.iconst 1, 1) := by decide +kernel
theorem dX6_turns_26 : decode cX6_turns 26 = .ok (.isub, 1) := by decide +kernel
theorem dX6_turns_27 : decode cX6_turns 27 = .ok (.iload_n 2, 1) := by decide +kernel
theorem dX6_turns_28 : decode cX6_turns 28 = .ok (.isub, 1) := by decide +kernel
theorem dX6_turns_29 : decode cX6_turns 29 = .ok (.imul, 1) := by decide +kernel
theorem dX6_turns_30 : decode cX6_turns 30 = .ok (.iload_n 3, 1) := by decide +kernel
theorem dX6_turns_31 : decode cX6_turns 31 = .ok (.iadd, 1) := by decide +kernel
theorem dX6_turns_32 : decode cX6_turns 32 = .ok (.iaload, 1) := by decide +kernel
theorem dX6_turns_33 : decode cX6_turns 33 = .ok (.istore 4, 2) := by decide +kernel
theorem dX6_turns_35 : decode cX6_turns 35 = .ok (.aload_n 0, 1) := by decide +kernel
theorem dX6_turns_36 : decode cX6_turns 36 = .ok (.getfield 23, 3) := by decide +kernel
theorem dX6_turns_39 : decode cX6_turns 39 = .ok (.iconst 5, 1) := by decide +kernel
theorem dX6_turns_40 : decode cX6_turns 40 = .ok (.iload_n 2, 1) := by decide +kernel
theorem dX6_turns_41 : decode cX6_turns 41 = .ok (.imul, 1) := by decide +kernel
theorem dX6_turns_42 : decode cX6_turns 42 = .ok (.iload_n 3, 1) := by decide +kernel
theorem dX6_turns_43 : decode cX6_turns 43 = .ok (.iadd, 1) := by decide +kernel
theorem dX6_turns_44 : decode cX6_turns 44 = .ok (.iload_n 3, 1) := by decide +kernel
theorem dX6_turns_45 : decode cX6_turns 45 = .ok (.iconst 2, 1) := by decide +kernel
theorem dX6_turns_46 : decode cX6_turns 46 = .ok (.if_icmp .eq 8, 3) := by decide +kernel
theorem dX6_turns_49 : decode cX6_turns 49 = .ok (.iload_n 3, 1) := by decide +kernel
theorem dX6_turns_50 : decode cX6_turns 50 = .ok (.iconst 3, 1) := by decide +kernel
theorem dX6_turns_51 : decode cX6_turns 51 = .ok (.if_icmp .ne 9, 3) := by decide +kernel
theorem dX6_turns_54 : decode cX6_turns 54 = .ok (.iload 4, 2) := by decide +kernel
theorem dX6_turns_56 : decode cX6_turns 56 = .ok (.ineg, 1) := by decide +kernel
theorem dX6_turns_57 : decode cX6_turns 57 = .ok (.goto 5, 3) := by decide +kernel
theorem dX6_turns_60 : decode cX6_turns 60 = .ok (.iload 4, 2) := by decide +kernel
theorem dX6_turns_62 : decode cX6_turns 62 = .ok (.iastore, 1) := by decide +kernel
theorem dX6_turns_63 : decode cX6_turns 63 = .ok (.iinc 3 1, 3) := by decide +kernel
theorem dX6_turns_66 : decode cX6_turns 66 = .ok (.goto (-52), 3) := by decide +kernel
theorem dX6_turns_69 : decode cX6_turns 69 = .ok (.iinc 2 1, 3) := by decide +kernel
theorem dX6_turns_72 : decode cX6_turns 72 = .ok (.goto (-65), 3) := by decide +kernel
theorem dX6_turns_75 : decode cX6_turns 75 = .ok (.return_, 1) := by decide +kernel
theorem dX6_wrongKind_0 : decode cX6_wrongKind 0 = .ok (.aload_n 0, 1) := by decide +kernel
theorem dX6_wrongKind_1 : decode cX6_wrongKind 1 = .ok (.iload_n 1, 1) := by decide +kernel
theorem dX6_wrongKind_2 : decode cX6_wrongKind 2 = .ok (.invokevirtual 106, 3) := by decide +kernel
theorem dX6_wrongKind_5 : decode cX6_wrongKind 5 = .ok (.ifCond .ne 7, 3) := by decide +kernel
theorem dX6_wrongKind_8 : decode cX6_wrongKind 8 = .ok (.iconst (-1), 1) := by decide +kernel
theorem dX6_wrongKind_9 : decode cX6_wrongKind 9 = .ok (.goto 41, 3) := by decide +kernel
theorem dX6_wrongKind_12 : decode cX6_wrongKind 12 = .ok (.iload_n 2, 1) := by decide +kernel
theorem dX6_wrongKind_13 : decode cX6_wrongKind 13 = .ok (.i2l, 1) := by decide +kernel
theorem dX6_wrongKind_14 : decode cX6_wrongKind 14 = .ok (.lconst 0, 1) := by decide +kernel
theorem dX6_wrongKind_15 : decode cX6_wrongKind 15 = .ok (.ldc2_w 110, 3) := by decide +kernel
theorem dX6_wrongKind_18 : decode cX6_wrongKind 18 = .ok (.invokestatic 67, 3) := by decide +kernel
theorem dX6_wrongKind_21 : decode cX6_wrongKind 21 = .ok (.ifCond .ne 8, 3) := by decide +kernel
theorem dX6_wrongKind_24 : decode cX6_wrongKind 24 = .ok (.bipush (-2), 2) := by decide +kernel
theorem dX6_wrongKind_26 : decode cX6_wrongKind 26 = .ok (.goto 24, 3) := by decide +kernel
theorem dX6_wrongKind_29 : decode cX6_wrongKind 29 = .ok (.iload_n 3, 1) := by decide +kernel
theorem dX6_wrongKind_30 : decode cX6_wrongKind 30 = .ok (.ifCond .ge 8, 3) := by decide +kernel
theorem dX6_wrongKind_33 : decode cX6_wrongKind 33 = .ok (.bipush (-4), 2) := by decide +kernel
theorem dX6_wrongKind_35 : decode cX6_wrongKind 35 = .ok (.goto 15, 3) := by decide +kernel
theorem dX6_wrongKind_38 : decode cX6_wrongKind 38 = .ok (.iload_n 3, 1) := by decide +kernel
theorem dX6_wrongKind_39 : decode cX6_wrongKind 39 = .ok (.bipush 9, 2) := by decide +kernel
theorem dX6_wrongKind_41 : decode cX6_wrongKind 41 = .ok (.if_icmp .le 8, 3) := by decide +kernel
theorem dX6_wrongKind_44 : decode cX6_wrongKind 44 = .ok (.bipush (-6), 2) := by decide +kernel
theorem dX6_wrongKind_46 : decode cX6_wrongKind 46 = .ok (.goto 4, 3) := by decide +kernel
theorem dX6_wrongKind_49 : decode cX6_wrongKind 49 = .ok (.iconst 0, 1) := by decide +kernel
theorem dX6_wrongKind_50 : decode cX6_wrongKind 50 = .ok (.ireturn, 1) := by decide +kernel
theorem dX6_becomes_0 : decode cX6_becomes 0 = .ok (.aload_n 0, 1) := by decide +kernel
theorem dX6_becomes_1 : decode cX6_becomes 1 = .ok (.getfield 23, 3) := by decide +kernel
theorem dX6_becomes_4 : decode cX6_becomes 4 = .ok (.iconst 5, 1) := by decide +kernel
theorem dX6_becomes_5 : decode cX6_becomes 5 = .ok (.iload_n 1, 1) := by decide +kernel
theorem dX6_becomes_6 : decode cX6_becomes 6 = .ok (.imul, 1) := by decide +kernel
theorem dX6_becomes_7 : decode cX6_becomes 7 = .ok (.iconst 0, 1) := by decide +kernel
theorem dX6_becomes_8 : decode cX6_becomes 8 = .ok (.iadd, 1) := by decide +kernel
theorem dX6_becomes_9 : decode cX6_becomes 9 = .ok (.iload_n 2, 1) := by decide +kernel
theorem dX6_becomes_10 : decode cX6_becomes 10 = .ok (.iastore, 1) := by decide +kernel
theorem dX6_becomes_11 : decode cX6_becomes 11 = .ok (.aload_n 0, 1) := by decide +kernel
theorem dX6_becomes_12 : decode cX6_becomes 12 = .ok (.getfield 23, 3) := by decide +kernel
theorem dX6_becomes_15 : decode cX6_becomes 15 = .ok (.iconst 5, 1) := by decide +kernel
theorem dX6_becomes_16 : decode cX6_becomes 16 = .ok (.iload_n 1, 1) := by decide +kernel
theorem dX6_becomes_17 : decode cX6_becomes 17 = .ok (.imul, 1) := by decide +kernel
theorem dX6_becomes_18 : decode cX6_becomes 18 = .ok (.iconst 1, 1) := by decide +kernel
theorem dX6_becomes_19 : decode cX6_becomes 19 = .ok (.iadd, 1) := by decide +kernel
theorem dX6_becomes_20 : decode cX6_becomes 20 = .ok (.iload_n 3, 1) := by decide +kernel
theorem dX6_becomes_21 : decode cX6_becomes 21 = .ok (.iastore, 1) := by decide +kernel
theorem dX6_becomes_22 : decode cX6_becomes 22 = .ok (.return_, 1) := by decide +kernel
theorem dX6_side_0 : decode cX6_side 0 = .ok (.aload_n 0, 1) := by decide +kernel
theorem dX6_side_1 : decode cX6_side 1 = .ok (.iload_n 1, 1) := by decide +kernel
theorem dX6_side_2 : decode cX6_side 2 = .ok (.iload_n 2, 1) := by decide +kernel
theorem dX6_side_3 : decode cX6_side 3 = .ok (.iload_n 3, 1) := by decide +kernel
theorem dX6_side_4 : decode cX6_side 4 = .ok (.invokevirtual 112, 3) := by decide +kernel
theorem dX6_side_7 : decode cX6_side 7 = .ok (.istore 4, 2) := by decide +kernel
theorem dX6_side_9 : decode cX6_side 9 = .ok (.iload 4, 2) := by decide +kernel
theorem dX6_side_11 : decode cX6_side 11 = .ok (.ifCond .eq 10, 3) := by decide +kernel
theorem dX6_side_14 : decode cX6_side 14 = .ok (.aload_n 0, 1) := by decide +kernel
theorem dX6_side_15 : decode cX6_side 15 = .ok (.iload 4, 2) := by decide +kernel
theorem dX6_side_17 : decode cX6_side 17 = .ok (.invokevirtual 13, 3) := by decide +kernel
theorem dX6_side_20 : decode cX6_side 20 = .ok (.ireturn, 1) := by decide +kernel
theorem dX6_side_21 : decode cX6_side 21 = .ok (.aload_n 0, 1) := by decide +kernel
theorem dX6_side_22 : decode cX6_side 22 = .ok (.invokevirtual 116, 3) := by decide +kernel
theorem dX6_side_25 : decode cX6_side 25 = .ok (.aload_n 0, 1) := by decide +kernel
theorem dX6_side_26 : decode cX6_side 26 = .ok (.invokevirtual 119, 3) := by decide +kernel
theorem dX6_side_29 : decode cX6_side 29 = .ok (.aload_n 0, 1) := by decide +kernel
theorem dX6_side_30 : decode cX6_side 30 = .ok (.aload_n 0, 1) := by decide +kernel
theorem dX6_side_31 : decode cX6_side 31 = .ok (.invokevirtual 63, 3) := by decide +kernel
theorem dX6_side_34 : decode cX6_side 34 = .ok (.iload_n 1, 1) := by decide +kernel
theorem dX6_side_35 : decode cX6_side 35 = .ok (.iload_n 2, 1) := by decide +kernel
theorem dX6_side_36 : decode cX6_side 36 = .ok (.iload_n 3, 1) := by decide +kernel
theorem dX6_side_37 : decode cX6_side 37 = .ok (.invokevirtual 122, 3) := by decide +kernel
theorem dX6_side_40 : decode cX6_side 40 = .ok (.aload_n 0, 1) := by decide +kernel
theorem dX6_side_41 : decode cX6_side 41 = .ok (.invokevirtual 63, 3) := by decide +kernel
theorem dX6_side_44 : decode cX6_side 44 = .ok (.iconst 1, 1) := by decide +kernel
theorem dX6_side_45 : decode cX6_side 45 = .ok (.isub, 1) := by decide +kernel
theorem dX6_side_46 : decode cX6_side 46 = .ok (.ireturn, 1) := by decide +kernel
theorem dX6_insert_0 : decode cX6_insert 0 = .ok (.aload_n 0, 1) := by decide +kernel
theorem dX6_insert_1 : decode cX6_insert 1 = .ok (.iload_n 1, 1) := by decide +kernel
theorem dX6_insert_2 : decode cX6_insert 2 = .ok (.invokevirtual 106, 3) := by decide +kernel
theorem dX6_insert_5 : decode cX6_insert 5 = .ok (.ifCond .eq 14, 3) := by decide +kernel
theorem dX6_insert_8 : decode cX6_insert 8 = .ok (.aload_n 0, 1) := by decide +kernel
theorem dX6_insert_9 : decode cX6_insert 9 = .ok (.iload_n 2, 1) := by decide +kernel
theorem dX6_insert_10 : decode cX6_insert 10 = .ok (.iload_n 3, 1) := by decide +kernel
theorem dX6_insert_11 : decode cX6_insert 11 = .ok (.iload 4, 2) := by decide +kernel
theorem dX6_insert_13 : decode cX6_insert 13 = .ok (.invokevirtual 112, 3) := by decide +kernel
theorem dX6_insert_16 : decode cX6_insert 16 = .ok (.goto 4, 3) := by decide +kernel
theorem dX6_insert_19 : decode cX6_insert 19 = .ok (.iconst (-1), 1) := by decide +kernel
theorem dX6_insert_20 : decode cX6_insert 20 = .ok (.istore 5, 2) := by decide +kernel
theorem dX6_insert_22 : decode cX6_insert 22 = .ok (.iload 5, 2) := by decide +kernel
theorem dX6_insert_24 : decode cX6_insert 24 = .ok (.ifCond .eq 10, 3) := by decide +kernel
theorem dX6_insert_27 : decode cX6_insert 27 = .ok (.aload_n 0, 1) := by decide +kernel
theorem dX6_insert_28 : decode cX6_insert 28 = .ok (.iload 5, 2) := by decide +kernel
theorem dX6_insert_30 : decode cX6_insert 30 = .ok (.invokevirtual 13, 3) := by decide +kernel
theorem dX6_insert_33 : decode cX6_insert 33 = .ok (.ireturn, 1) := by decide +kernel
theorem dX6_insert_34 : decode cX6_insert 34 = .ok (.aload_n 0, 1) := by decide +kernel
theorem dX6_insert_35 : decode cX6_insert 35 = .ok (.invokevirtual 116, 3) := by decide +kernel
theorem dX6_insert_38 : decode cX6_insert 38 = .ok (.aload_n 0, 1) := by decide +kernel
theorem dX6_insert_39 : decode cX6_insert 39 = .ok (.invokevirtual 119, 3) := by decide +kernel
theorem dX6_insert_42 : decode cX6_insert 42 = .ok (.aload_n 0, 1) := by decide +kernel
theorem dX6_insert_43 : decode cX6_insert 43 = .ok (.iload_n 1, 1) := by decide +kernel
theorem dX6_insert_44 : decode cX6_insert 44 = .ok (.iload_n 2, 1) := by decide +kernel
theorem dX6_insert_45 : decode cX6_insert 45 = .ok (.iload_n 3, 1) := by decide +kernel
theorem dX6_insert_46 : decode cX6_insert 46 = .ok (.iload 4, 2) := by decide +kernel
theorem dX6_insert_48 : decode cX6_insert 48 = .ok (.invokevirtual 122, 3) := by decide +kernel
theorem dX6_insert_51 : decode cX6_insert 51 = .ok (.iload_n 1, 1) := by decide +kernel
theorem dX6_insert_52 : decode cX6_insert 52 = .ok (.ireturn, 1) := by decide +kernel
theorem dX6_kind_0 : decode cX6_kind 0 = .ok (.aload_n 0, 1) := by decide +kernel
theorem dX6_kind_1 : decode cX6_kind 1 = .ok (.iload_n 1, 1) := by decide +kernel
theorem dX6_kind_2 : decode cX6_kind 2 = .ok (.iload_n 2, 1) := by decide +kernel
theorem dX6_kind_3 : decode cX6_kind 3 = .ok (.iload_n 3, 1) := by decide +kernel
theorem dX6_kind_4 : decode cX6_kind 4 = .ok (.invokevirtual 126, 3) := by decide +kernel
theorem dX6_kind_7 : decode cX6_kind 7 = .ok (.istore 4, 2) := by decide +kernel
theorem dX6_kind_9 : decode cX6_kind 9 = .ok (.iload 4, 2) := by decide +kernel
theorem dX6_kind_11 : decode cX6_kind 11 = .ok (.ifCond .eq 10, 3) := by decide +kernel
theorem dX6_kind_14 : decode cX6_kind 14 = .ok (.aload_n 0, 1) := by decide +kernel
theorem dX6_kind_15 : decode cX6_kind 15 = .ok (.iload 4, 2) := by decide +kernel
theorem dX6_kind_17 : decode cX6_kind 17 = .ok (.invokevirtual 13, 3) := by decide +kernel
theorem dX6_kind_20 : decode cX6_kind 20 = .ok (.ireturn, 1) := by decide +kernel
theorem dX6_kind_21 : decode cX6_kind 21 = .ok (.aload_n 0, 1) := by decide +kernel
theorem dX6_kind_22 : decode cX6_kind 22 = .ok (.invokevirtual 116, 3) := by decide +kernel
theorem dX6_kind_25 : decode cX6_kind 25 = .ok (.aload_n 0, 1) := by decide +kernel
theorem dX6_kind_26 : decode cX6_kind 26 = .ok (.invokevirtual 119, 3) := by decide +kernel
theorem dX6_kind_29 : decode cX6_kind 29 = .ok (.bipush 10, 2) := by decide +kernel
theorem dX6_kind_31 : decode cX6_kind 31 = .ok (.aload_n 0, 1) := by decide +kernel
theorem dX6_kind_32 : decode cX6_kind 32 = .ok (.iload_n 1, 1) := by decide +kernel
theorem dX6_kind_33 : decode cX6_kind 33 = .ok (.iconst 0, 1) := by decide +kernel
theorem dX6_kind_34 : decode cX6_kind 34 = .ok (.invokevirtual 80, 3) := by decide +kernel
theorem dX6_kind_37 : decode cX6_kind 37 = .ok (.imul, 1) := by decide +kernel
theorem dX6_kind_38 : decode cX6_kind 38 = .ok (.aload_n 0, 1) := by decide +kernel
theorem dX6_kind_39 : decode cX6_kind 39 = .ok (.iload_n 1, 1) := by decide +kernel
theorem dX6_kind_40 : decode cX6_kind 40 = .ok (.iconst 1, 1) := by decide +kernel
theorem dX6_kind_41 : decode cX6_kind 41 = .ok (.invokevirtual 80, 3) := by decide +kernel
theorem dX6_kind_44 : decode cX6_kind 44 = .ok (.iadd, 1) := by decide +kernel
theorem dX6_kind_45 : decode cX6_kind 45 = .ok (.istore 5, 2) := by decide +kernel
theorem dX6_kind_47 : decode cX6_kind 47 = .ok (.aload_n 0, 1) := by decide +kernel
theorem dX6_kind_48 : decode cX6_kind 48 = .ok (.iload_n 1, 1) := by decide +kernel
theorem dX6_kind_49 : decode cX6_kind 49 = .ok (.iload_n 2, 1) := by decide +kernel
theorem dX6_kind_50 : decode cX6_kind 50 = .ok (.iload_n 3, 1) := by decide +kernel
theorem dX6_kind_51 : decode cX6_kind 51 = .ok (.invokevirtual 129, 3) := by decide +kernel
theorem dX6_kind_54 : decode cX6_kind 54 = .ok (.iload 5, 2) := by decide +kernel
theorem dX6_kind_56 : decode cX6_kind 56 = .ok (.ireturn, 1) := by decide +kernel
theorem dX6_gone_0 : decode cX6_gone 0 = .ok (.aload_n 0, 1) := by decide +kernel
theorem dX6_gone_1 : decode cX6_gone 1 = .ok (.iload_n 1, 1) := by decide +kernel
theorem dX6_gone_2 : decode cX6_gone 2 = .ok (.invokevirtual 106, 3) := by decide +kernel
theorem dX6_gone_5 : decode cX6_gone 5 = .ok (.ifCond .ne 9, 3) := by decide +kernel
theorem dX6_gone_8 : decode cX6_gone 8 = .ok (.aload_n 0, 1) := by decide +kernel
theorem dX6_gone_9 : decode cX6_gone 9 = .ok (.iconst (-1), 1) := by decide +kernel
theorem dX6_gone_10 : decode cX6_gone 10 = .ok (.invokevirtual 13, 3) := by decide +kernel
theorem dX6_gone_13 : decode cX6_gone 13 = .ok (.ireturn, 1) := by decide +kernel
theorem dX6_gone_14 : decode cX6_gone 14 = .ok (.aload_n 0, 1) := by decide +kernel
theorem dX6_gone_15 : decode cX6_gone 15 = .ok (.invokevirtual 116, 3) := by decide +kernel
theorem dX6_gone_18 : decode cX6_gone 18 = .ok (.aload_n 0, 1) := by decide +kernel
theorem dX6_gone_19 : decode cX6_gone 19 = .ok (.invokevirtual 119, 3) := by decide +kernel
theorem dX6_gone_22 : decode cX6_gone 22 = .ok (.aload_n 0, 1) := by decide +kernel
theorem dX6_gone_23 : decode cX6_gone 23 = .ok (.iload_n 1, 1) := by decide +kernel
theorem dX6_gone_24 : decode cX6_gone 24 = .ok (.invokevirtual 133, 3) := by decide +kernel
theorem dX6_gone_27 : decode cX6_gone 27 = .ok (.aload_n 0, 1) := by decide +kernel
theorem dX6_gone_28 : decode cX6_gone 28 = .ok (.invokevirtual 63, 3) := by decide +kernel
theorem dX6_gone_31 : decode cX6_gone 31 = .ok (.ireturn, 1) := by decide +kernel
theorem dX6_turned_0 : decode cX6_turned 0 = .ok (.aload_n 0, 1) := by decide +kernel
theorem dX6_turned_1 : decode cX6_turned 1 = .ok (.invokevirtual 116, 3) := by decide +kernel
theorem dX6_turned_4 : decode cX6_turned 4 = .ok (.aload_n 0, 1) := by decide +kernel
theorem dX6_turned_5 : decode cX6_turned 5 = .ok (.invokevirtual 119, 3) := by decide +kernel
theorem dX6_turned_8 : decode cX6_turned 8 = .ok (.aload_n 0, 1) := by decide +kernel
theorem dX6_turned_9 : decode cX6_turned 9 = .ok (.invokevirtual 137, 3) := by decide +kernel
theorem dX6_turned_12 : decode cX6_turned 12 = .ok (.aload_n 0, 1) := by decide +kernel
theorem dX6_turned_13 : decode cX6_turned 13 = .ok (.invokevirtual 63, 3) := by decide +kernel
theorem dX6_turned_16 : decode cX6_turned 16 = .ok (.ireturn, 1) := by decide +kernel
theorem dX6_letter_0 : decode cX6_letter 0 = .ok (.iload_n 1, 1) := by decide +kernel
theorem dX6_letter_1 : decode cX6_letter 1 = .ok (.ifCond .ge 10, 3) := by decide +kernel
theorem dX6_letter_4 : decode cX6_letter 4 = .ok (.aload_n 0, 1) := by decide +kernel
theorem dX6_letter_5 : decode cX6_letter 5 = .ok (.bipush (-4), 2) := by decide +kernel
theorem dX6_letter_7 : decode cX6_letter 7 = .ok (.invokevirtual 13, 3) := by decide +kernel
theorem dX6_letter_10 : decode cX6_letter 10 = .ok (.ireturn, 1) := by decide +kernel
theorem dX6_letter_11 : decode cX6_letter 11 = .ok (.iload_n 1, 1) := by decide +kernel
theorem dX6_letter_12 : decode cX6_letter 12 = .ok (.sipush 255, 3) := by decide +kernel
theorem dX6_letter_15 : decode cX6_letter 15 = .ok (.if_icmp .gt 12, 3) := by decide +kernel
theorem dX6_letter_18 : decode cX6_letter 18 = .ok (.aload_n 0, 1) := by decide +kernel
theorem dX6_letter_19 : decode cX6_letter 19 = .ok (.getfield 140, 3) := by decide +kernel
theorem dX6_letter_22 : decode cX6_letter 22 = .ok (.bipush 120, 2) := by decide +kernel
theorem dX6_letter_24 : decode cX6_letter 24 = .ok (.if_icmp .ne 10, 3) := by decide +kernel
theorem dX6_letter_27 : decode cX6_letter 27 = .ok (.aload_n 0, 1) := by decide +kernel
theorem dX6_letter_28 : decode cX6_letter 28 = .ok (.bipush (-6), 2) := by decide +kernel
theorem dX6_letter_30 : decode cX6_letter 30 = .ok (.invokevirtual 13, 3) := by decide +kernel
theorem dX6_letter_33 : decode cX6_letter 33 = .ok (.ireturn, 1) := by decide +kernel
theorem dX6_letter_34 : decode cX6_letter 34 = .ok (.aload_n 0, 1) := by decide +kernel
theorem dX6_letter_35 : decode cX6_letter 35 = .ok (.getfield 32, 3) := by decide +kernel
theorem dX6_letter_38 : decode cX6_letter 38 = .ok (.aload_n 0, 1) := by decide +kernel
theorem dX6_letter_39 : decode cX6_letter 39 = .ok (.getfield 140, 3) := by decide +kernel
theorem dX6_letter_42 : decode cX6_letter 42 = .ok (.iload_n 1, 1) := by decide +kernel
theorem dX6_letter_43 : decode cX6_letter 43 = .ok (.iastore, 1) := by decide +kernel
theorem dX6_letter_44 : decode cX6_letter 44 = .ok (.aload_n 0, 1) := by decide +kernel
theorem dX6_letter_45 : decode cX6_letter 45 = .ok (.dup, 1) := by decide +kernel
theorem dX6_letter_46 : decode cX6_letter 46 = .ok (.getfield 140, 3) := by decide +kernel
theorem dX6_letter_49 : decode cX6_letter 49 = .ok (.iconst 1, 1) := by decide +kernel
theorem dX6_letter_50 : decode cX6_letter 50 = .ok (.iadd, 1) := by decide +kernel
theorem dX6_letter_51 : decode cX6_letter 51 = .ok (.putfield 140, 3) := by decide +kernel
theorem dX6_letter_54 : decode cX6_letter 54 = .ok (.aload_n 0, 1) := by decide +kernel
theorem dX6_letter_55 : decode cX6_letter 55 = .ok (.getfield 140, 3) := by decide +kernel
theorem dX6_letter_58 : decode cX6_letter 58 = .ok (.ireturn, 1) := by decide +kernel
theorem dX6_here_0 : decode cX6_here 0 = .ok (.aload_n 0, 1) := by decide +kernel
theorem dX6_here_1 : decode cX6_here 1 = .ok (.getfield 143, 3) := by decide +kernel
theorem dX6_here_4 : decode cX6_here 4 = .ok (.aload_n 0, 1) := by decide +kernel
theorem dX6_here_5 : decode cX6_here 5 = .ok (.getfield 140, 3) := by decide +kernel
theorem dX6_here_8 : decode cX6_here 8 = .ok (.if_icmp .ge 15, 3) := by decide +kernel
theorem dX6_here_11 : decode cX6_here 11 = .ok (.aload_n 0, 1) := by decide +kernel
theorem dX6_here_12 : decode cX6_here 12 = .ok (.getfield 32, 3) := by decide +kernel
theorem dX6_here_15 : decode cX6_here 15 = .ok (.aload_n 0, 1) := by decide +kernel
theorem dX6_here_16 : decode cX6_here 16 = .ok (.getfield 143, 3) := by decide +kernel
theorem dX6_here_19 : decode cX6_here 19 = .ok (.iaload, 1) := by decide +kernel
theorem dX6_here_20 : decode cX6_here 20 = .ok (.goto 5, 3) := by decide +kernel
theorem dX6_here_23 : decode cX6_here 23 = .ok (.bipush (-9), 2) := by decide +kernel
theorem dX6_here_25 : decode cX6_here 25 = .ok (.ireturn, 1) := by decide +kernel
theorem dX6_takes_0 : decode cX6_takes 0 = .ok (.aload_n 0, 1) := by decide +kernel
theorem dX6_takes_1 : decode cX6_takes 1 = .ok (.getfield 146, 3) := by decide +kernel
theorem dX6_takes_4 : decode cX6_takes 4 = .ok (.ifCond .ne 11, 3) := by decide +kernel
theorem dX6_takes_7 : decode cX6_takes 7 = .ok (.aload_n 0, 1) := by decide +kernel
theorem dX6_takes_8 : decode cX6_takes 8 = .ok (.invokevirtual 150, 3) := by decide +kernel
theorem dX6_takes_11 : decode cX6_takes 11 = .ok (.iload_n 1, 1) := by decide +kernel
theorem dX6_takes_12 : decode cX6_takes 12 = .ok (.if_icmp .eq 9, 3) := by decide +kernel
theorem dX6_takes_15 : decode cX6_takes 15 = .ok (.aload_n 0, 1) := by decide +kernel
theorem dX6_takes_16 : decode cX6_takes 16 = .ok (.iconst 1, 1) := by decide +kernel
theorem dX6_takes_17 : decode cX6_takes 17 = .ok (.putfield 146, 3) := by decide +kernel
theorem dX6_takes_20 : decode cX6_takes 20 = .ok (.return_, 1) := by decide +kernel
theorem dX6_takes_21 : decode cX6_takes 21 = .ok (.aload_n 0, 1) := by decide +kernel
theorem dX6_takes_22 : decode cX6_takes 22 = .ok (.dup, 1) := by decide +kernel
theorem dX6_takes_23 : decode cX6_takes 23 = .ok (.getfield 143, 3) := by decide +kernel
theorem dX6_takes_26 : decode cX6_takes 26 = .ok (.iconst 1, 1) := by decide +kernel
theorem dX6_takes_27 : decode cX6_takes 27 = .ok (.iadd, 1) := by decide +kernel
theorem dX6_takes_28 : decode cX6_takes 28 = .ok (.putfield 143, 3) := by decide +kernel
theorem dX6_takes_31 : decode cX6_takes 31 = .ok (.return_, 1) := by decide +kernel
theorem dX6_digit_0 : decode cX6_digit 0 = .ok (.aload_n 0, 1) := by decide +kernel
theorem dX6_digit_1 : decode cX6_digit 1 = .ok (.getfield 146, 3) := by decide +kernel
theorem dX6_digit_4 : decode cX6_digit 4 = .ok (.ifCond .eq 4, 3) := by decide +kernel
theorem dX6_digit_7 : decode cX6_digit 7 = .ok (.return_, 1) := by decide +kernel
theorem dX6_digit_8 : decode cX6_digit 8 = .ok (.iload_n 2, 1) := by decide +kernel
theorem dX6_digit_9 : decode cX6_digit 9 = .ok (.ifCond .eq 16, 3) := by decide +kernel
theorem dX6_digit_12 : decode cX6_digit 12 = .ok (.aload_n 0, 1) := by decide +kernel
theorem dX6_digit_13 : decode cX6_digit 13 = .ok (.invokevirtual 150, 3) := by decide +kernel
theorem dX6_digit_16 : decode cX6_digit 16 = .ok (.bipush 45, 2) := by decide +kernel
theorem dX6_digit_18 : decode cX6_digit 18 = .ok (.if_icmp .ne 7, 3) := by decide +kernel
theorem dX6_digit_21 : decode cX6_digit 21 = .ok (.iconst 1, 1) := by decide +kernel
theorem dX6_digit_22 : decode cX6_digit 22 = .ok (.goto 4, 3) := by decide +kernel
theorem dX6_digit_25 : decode cX6_digit 25 = .ok (.iconst 0, 1) := by decide +kernel
theorem dX6_digit_26 : decode cX6_digit 26 = .ok (.istore_n 3, 1) := by decide +kernel
theorem dX6_digit_27 : decode cX6_digit 27 = .ok (.aload_n 0, 1) := by decide +kernel
theorem dX6_digit_28 : decode cX6_digit 28 = .ok (.dup, 1) := by decide +kernel
theorem dX6_digit_29 : decode cX6_digit 29 = .ok (.getfield 143, 3) := by decide +kernel
theorem dX6_digit_32 : decode cX6_digit 32 = .ok (.iload_n 3, 1) := by decide +kernel
theorem dX6_digit_33 : decode cX6_digit 33 = .ok (.ifCond .eq 7, 3) := by decide +kernel
theorem dX6_digit_36 : decode cX6_digit 36 = .ok (.iconst 1, 1) := by decide +kernel
theorem dX6_digit_37 : decode cX6_digit 37 = .ok (.goto 4, 3) := by decide +kernel
theorem dX6_digit_40 : decode cX6_digit 40 = .ok (.iconst 0, 1) := by decide +kernel
theorem dX6_digit_41 : decode cX6_digit 41 = .ok (.iadd, 1) := by decide +kernel
theorem dX6_digit_42 : decode cX6_digit 42 = .ok (.putfield 143, 3) := by decide +kernel
theorem dX6_digit_45 : decode cX6_digit 45 = .ok (.aload_n 0, 1) := by decide +kernel
theorem dX6_digit_46 : decode cX6_digit 46 = .ok (.invokevirtual 150, 3) := by decide +kernel
theorem dX6_digit_49 : decode cX6_digit 49 = .ok (.i2l, 1) := by decide +kernel
theorem dX6_digit_50 : decode cX6_digit 50 = .ok (.ldc2_w 153, 3) := by decide +kernel
theorem dX6_digit_53 : decode cX6_digit 53 = .ok (.ldc2_w 155, 3) := by decide +kernel
theorem dX6_digit_56 : decode cX6_digit 56 = .ok (.invokestatic 67, 3) := by decide +kernel
theorem dX6_digit_59 : decode cX6_digit 59 = .ok (.ifCond .ne 9, 3) := by decide +kernel
theorem dX6_digit_62 : decode cX6_digit 62 = .ok (.aload_n 0, 1) := by decide +kernel
theorem dX6_digit_63 : decode cX6_digit 63 = .ok (.iconst 1, 1) := by decide +kernel
theorem dX6_digit_64 : decode cX6_digit 64 = .ok (.putfield 146, 3) := by decide +kernel
theorem dX6_digit_67 : decode cX6_digit 67 = .ok (.return_, 1) := by decide +kernel
theorem dX6_digit_68 : decode cX6_digit 68 = .ok (.aload_n 0, 1) := by decide +kernel
theorem dX6_digit_69 : decode cX6_digit 69 = .ok (.getfield 32, 3) := by decide +kernel
theorem dX6_digit_72 : decode cX6_digit 72 = .ok (.aload_n 0, 1) := by decide +kernel
theorem dX6_digit_73 : decode cX6_digit 73 = .ok (.getfield 143, 3) := by decide +kernel
theorem dX6_digit_76 : decode cX6_digit 76 = .ok (.iaload, 1) := by decide +kernel
theorem dX6_digit_77 : decode cX6_digit 77 = .ok (.bipush 48, 2) := by decide +kernel
theorem dX6_digit_79 : decode cX6_digit 79 = .ok (.isub, 1) := by decide +kernel
theorem dX6_digit_80 : decode cX6_digit 80 = .ok (.istore 4, 2) := by decide +kernel
theorem dX6_digit_82 : decode cX6_digit 82 = .ok (.aload_n 0, 1) := by decide +kernel
theorem dX6_digit_83 : decode cX6_digit 83 = .ok (.getfield 35, 3) := by decide +kernel
theorem dX6_digit_86 : decode cX6_digit 86 = .ok (.iload_n 1, 1) := by decide +kernel
theorem dX6_digit_87 : decode cX6_digit 87 = .ok (.iload_n 3, 1) := by decide +kernel
theorem dX6_digit_88 : decode cX6_digit 88 = .ok (.ifCond .eq 9, 3) := by decide +kernel
theorem dX6_digit_91 : decode cX6_digit 91 = .ok (.iload 4, 2) := by decide +kernel
theorem dX6_digit_93 : decode cX6_digit 93 = .ok (.ineg, 1) := by decide +kernel
theorem dX6_digit_94 : decode cX6_digit 94 = .ok (.goto 5, 3) := by decide +kernel
theorem dX6_digit_97 : decode cX6_digit 97 = .ok (.iload 4, 2) := by decide +kernel
theorem dX6_digit_99 : decode cX6_digit 99 = .ok (.iastore, 1) := by decide +kernel
theorem dX6_digit_100 : decode cX6_digit 100 = .ok (.aload_n 0, 1) := by decide +kernel
theorem dX6_digit_101 : decode cX6_digit 101 = .ok (.dup, 1) := by decide +kernel
theorem dX6_digit_102 : decode cX6_digit 102 = .ok (.getfield 143, 3) := by decide +kernel
theorem dX6_digit_105 : decode cX6_digit 105 = .ok (.iconst 1, 1) := by decide +kernel
theorem dX6_digit_106 : decode cX6_digit 106 = .ok (.iadd, 1) := by decide +kernel
theorem dX6_digit_107 : decode cX6_digit 107 = .ok (.putfield 143, 3) := by decide +kernel
theorem dX6_digit_110 : decode cX6_digit 110 = .ok (.return_, 1) := by decide +kernel
theorem dX6_bearing_0 : decode cX6_bearing 0 = .ok (.aload_n 0, 1) := by decide +kernel
theorem dX6_bearing_1 : decode cX6_bearing 1 = .ok (.iconst 1, 1) := by decide +kernel
theorem dX6_bearing_2 : decode cX6_bearing 2 = .ok (.iconst 1, 1) := by decide +kernel
theorem dX6_bearing_3 : decode cX6_bearing 3 = .ok (.invokevirtual 157, 3) := by decide +kernel
theorem dX6_bearing_6 : decode cX6_bearing 6 = .ok (.aload_n 0, 1) := by decide +kernel
theorem dX6_bearing_7 : decode cX6_bearing 7 = .ok (.bipush 44, 2) := by decide +kernel
theorem dX6_bearing_9 : decode cX6_bearing 9 = .ok (.invokevirtual 161, 3) := by decide +kernel
theorem dX6_bearing_12 : decode cX6_bearing 12 = .ok (.aload_n 0, 1) := by decide +kernel
theorem dX6_bearing_13 : decode cX6_bearing 13 = .ok (.iconst 2, 1) := by decide +kernel
theorem dX6_bearing_14 : decode cX6_bearing 14 = .ok (.iconst 1, 1) := by decide +kernel
theorem dX6_bearing_15 : decode cX6_bearing 15 = .ok (.invokevirtual 157, 3) := by decide +kernel
theorem dX6_bearing_18 : decode cX6_bearing 18 = .ok (.aload_n 0, 1) := by decide +kernel
theorem dX6_bearing_19 : decode cX6_bearing 19 = .ok (.bipush 42, 2) := by decide +kernel
theorem dX6_bearing_21 : decode cX6_bearing 21 = .ok (.invokevirtual 161, 3) := by decide +kernel
theorem dX6_bearing_24 : decode cX6_bearing 24 = .ok (.aload_n 0, 1) := by decide +kernel
theorem dX6_bearing_25 : decode cX6_bearing 25 = .ok (.iconst 3, 1) := by decide +kernel
theorem dX6_bearing_26 : decode cX6_bearing 26 = .ok (.iconst 0, 1) := by decide +kernel
theorem dX6_bearing_27 : decode cX6_bearing 27 = .ok (.invokevirtual 157, 3) := by decide +kernel
theorem dX6_bearing_30 : decode cX6_bearing 30 = .ok (.return_, 1) := by decide +kernel
theorem dX6_statement_0 : decode cX6_statement 0 = .ok (.aload_n 0, 1) := by decide +kernel
theorem dX6_statement_1 : decode cX6_statement 1 = .ok (.invokevirtual 150, 3) := by decide +kernel
theorem dX6_statement_4 : decode cX6_statement 4 = .ok (.istore_n 1, 1) := by decide +kernel
theorem dX6_statement_5 : decode cX6_statement 5 = .ok (.iload_n 1, 1) := by decide +kernel
theorem dX6_statement_6 : decode cX6_statement 6 = .ok (.bipush 115, 2) := by decide +kernel
theorem dX6_statement_8 : decode cX6_statement 8 = .ok (.if_icmp .eq 34, 3) := by decide +kernel
theorem dX6_statement_11 : decode cX6_statement 11 = .ok (.iload_n 1, 1) := by decide +kernel
theorem dX6_statement_12 : decode cX6_statement 12 = .ok (.bipush 105, 2) := by decide +kernel
theorem dX6_statement_14 : decode cX6_statement 14 = .ok (.if_icmp .eq 28, 3) := by decide +kernel
theorem dX6_statement_17 : decode cX6_statement 17 = .ok (.iload_n 1, 1) := by decide +kernel
theorem dX6_statement_18 : decode cX6_statement 18 = .ok (.bipush 107, 2) := by decide +kernel
theorem dX6_statement_20 : decode cX6_statement 20 = .ok (.if_icmp .eq 22, 3) := by decide +kernel
theorem dX6_statement_23 : decode cX6_statement 23 = .ok (.iload_n 1, 1) := by decide +kernel
theorem dX6_statement_24 : decode cX6_statement 24 = .ok (.bipush 100, 2) := by decide +kernel
theorem dX6_statement_26 : decode cX6_statement 26 = .ok (.if_icmp .eq 16, 3) := by decide +kernel
theorem dX6_statement_29 : decode cX6_statement 29 = .ok (.iload_n 1, 1) := by decide +kernel
theorem dX6_statement_30 : decode cX6_statement 30 = .ok (.bipush 114, 2) := by decide +kernel
theorem dX6_statement_32 : decode cX6_statement 32 = .ok (.if_icmp .eq 10, 3) := by decide +kernel
theorem dX6_statement_35 : decode cX6_statement 35 = .ok (.aload_n 0, 1) := by decide +kernel
theorem dX6_statement_36 : decode cX6_statement 36 = .ok (.iconst 1, 1) := by decide +kernel
theorem dX6_statement_37 : decode cX6_statement 37 = .ok (.putfield 146, 3) := by decide +kernel
theorem dX6_statement_40 : decode cX6_statement 40 = .ok (.iload_n 1, 1) := by decide +kernel
theorem dX6_statement_41 : decode cX6_statement 41 = .ok (.ireturn, 1) := by decide +kernel
theorem dX6_statement_42 : decode cX6_statement 42 = .ok (.aload_n 0, 1) := by decide +kernel
theorem dX6_statement_43 : decode cX6_statement 43 = .ok (.dup, 1) := by decide +kernel
theorem dX6_statement_44 : decode cX6_statement 44 = .ok (.getfield 143, 3) := by decide +kernel
theorem dX6_statement_47 : decode cX6_statement 47 = .ok (.iconst 1, 1) := by decide +kernel
theorem dX6_statement_48 : decode cX6_statement 48 = .ok (.iadd, 1) := by decide +kernel
theorem dX6_statement_49 : decode cX6_statement 49 = .ok (.putfield 143, 3) := by decide +kernel
theorem dX6_statement_52 : decode cX6_statement 52 = .ok (.iload_n 1, 1) := by decide +kernel
theorem dX6_statement_53 : decode cX6_statement 53 = .ok (.bipush 105, 2) := by decide +kernel
theorem dX6_statement_55 : decode cX6_statement 55 = .ok (.if_icmp .eq 15, 3) := by decide +kernel
theorem dX6_statement_58 : decode cX6_statement 58 = .ok (.iload_n 1, 1) := by decide +kernel
theorem dX6_statement_59 : decode cX6_statement 59 = .ok (.bipush 107, 2) := by decide +kernel
theorem dX6_statement_61 : decode cX6_statement 61 = .ok (.if_icmp .eq 9, 3) := by decide +kernel
theorem dX6_statement_64 : decode cX6_statement 64 = .ok (.iload_n 1, 1) := by decide +kernel
theorem dX6_statement_65 : decode cX6_statement 65 = .ok (.bipush 100, 2) := by decide +kernel
theorem dX6_statement_67 : decode cX6_statement 67 = .ok (.if_icmp .ne 9, 3) := by decide +kernel
theorem dX6_statement_70 : decode cX6_statement 70 = .ok (.aload_n 0, 1) := by decide +kernel
theorem dX6_statement_71 : decode cX6_statement 71 = .ok (.iconst 0, 1) := by decide +kernel
theorem dX6_statement_72 : decode cX6_statement 72 = .ok (.iconst 0, 1) := by decide +kernel
theorem dX6_statement_73 : decode cX6_statement 73 = .ok (.invokevirtual 157, 3) := by decide +kernel
theorem dX6_statement_76 : decode cX6_statement 76 = .ok (.iload_n 1, 1) := by decide +kernel
theorem dX6_statement_77 : decode cX6_statement 77 = .ok (.bipush 105, 2) := by decide +kernel
theorem dX6_statement_79 : decode cX6_statement 79 = .ok (.if_icmp .ne 9, 3) := by decide +kernel
theorem dX6_statement_82 : decode cX6_statement 82 = .ok (.aload_n 0, 1) := by decide +kernel
theorem dX6_statement_83 : decode cX6_statement 83 = .ok (.bipush 58, 2) := by decide +kernel
theorem dX6_statement_85 : decode cX6_statement 85 = .ok (.invokevirtual 161, 3) := by decide +kernel
theorem dX6_statement_88 : decode cX6_statement 88 = .ok (.iload_n 1, 1) := by decide +kernel
theorem dX6_statement_89 : decode cX6_statement 89 = .ok (.bipush 115, 2) := by decide +kernel
theorem dX6_statement_91 : decode cX6_statement 91 = .ok (.if_icmp .eq 9, 3) := by decide +kernel
theorem dX6_statement_94 : decode cX6_statement 94 = .ok (.iload_n 1, 1) := by decide +kernel
theorem dX6_statement_95 : decode cX6_statement 95 = .ok (.bipush 105, 2) := by decide +kernel
theorem dX6_statement_97 : decode cX6_statement 97 = .ok (.if_icmp .ne 7, 3) := by decide +kernel
theorem dX6_statement_100 : decode cX6_statement 100 = .ok (.aload_n 0, 1) := by decide +kernel
theorem dX6_statement_101 : decode cX6_statement 101 = .ok (.invokevirtual 164, 3) := by decide +kernel
theorem dX6_statement_104 : decode cX6_statement 104 = .ok (.iload_n 1, 1) := by decide +kernel
theorem dX6_statement_105 : decode cX6_statement 105 = .ok (.bipush 107, 2) := by decide +kernel
theorem dX6_statement_107 : decode cX6_statement 107 = .ok (.if_icmp .ne 27, 3) := by decide +kernel
theorem dX6_statement_110 : decode cX6_statement 110 = .ok (.aload_n 0, 1) := by decide +kernel
theorem dX6_statement_111 : decode cX6_statement 111 = .ok (.bipush 61, 2) := by decide +kernel
theorem dX6_statement_113 : decode cX6_statement 113 = .ok (.invokevirtual 161, 3) := by decide +kernel
theorem dX6_statement_116 : decode cX6_statement 116 = .ok (.aload_n 0, 1) := by decide +kernel
theorem dX6_statement_117 : decode cX6_statement 117 = .ok (.iconst 1, 1) := by decide +kernel
theorem dX6_statement_118 : decode cX6_statement 118 = .ok (.iconst 0, 1) := by decide +kernel
theorem dX6_statement_119 : decode cX6_statement 119 = .ok (.invokevirtual 157, 3) := by decide +kernel
theorem dX6_statement_122 : decode cX6_statement 122 = .ok (.aload_n 0, 1) := by decide +kernel
theorem dX6_statement_123 : decode cX6_statement 123 = .ok (.bipush 44, 2) := by decide +kernel
theorem dX6_statement_125 : decode cX6_statement 125 = .ok (.invokevirtual 161, 3) := by decide +kernel
theorem dX6_statement_128 : decode cX6_statement 128 = .ok (.aload_n 0, 1) := by decide +kernel
theorem dX6_statement_129 : decode cX6_statement 129 = .ok (.iconst 2, 1) := by decide +kernel
theorem dX6_statement_130 : decode cX6_statement 130 = .ok (.iconst 0, 1) := by decide +kernel
theorem dX6_statement_131 : decode cX6_statement 131 = .ok (.invokevirtual 157, 3) := by decide +kernel
theorem dX6_statement_134 : decode cX6_statement 134 = .ok (.aload_n 0, 1) := by decide +kernel
theorem dX6_statement_135 : decode cX6_statement 135 = .ok (.bipush 59, 2) := by decide +kernel
theorem dX6_statement_137 : decode cX6_statement 137 = .ok (.invokevirtual 161, 3) := by decide +kernel
theorem dX6_statement_140 : decode cX6_statement 140 = .ok (.iload_n 1, 1) := by decide +kernel
theorem dX6_statement_141 : decode cX6_statement 141 = .ok (.ireturn, 1) := by decide +kernel
theorem dX6_isDone_0 : decode cX6_isDone 0 = .ok (.aload_n 0, 1) := by decide +kernel
theorem dX6_isDone_1 : decode cX6_isDone 1 = .ok (.getfield 35, 3) := by decide +kernel
theorem dX6_isDone_4 : decode cX6_isDone 4 = .ok (.iconst 0, 1) := by decide +kernel
theorem dX6_isDone_5 : decode cX6_isDone 5 = .ok (.iaload, 1) := by decide +kernel
theorem dX6_isDone_6 : decode cX6_isDone 6 = .ok (.istore_n 2, 1) := by decide +kernel
theorem dX6_isDone_7 : decode cX6_isDone 7 = .ok (.iload_n 1, 1) := by decide +kernel
theorem dX6_isDone_8 : decode cX6_isDone 8 = .ok (.lookupswitch 181 #[(100, 164), (105, 44), (107, 123), (115, 44)], 44) := by decide +kernel
theorem dX6_isDone_52 : decode cX6_isDone 52 = .ok (.iload_n 1, 1) := by decide +kernel
theorem dX6_isDone_53 : decode cX6_isDone 53 = .ok (.bipush 105, 2) := by decide +kernel
theorem dX6_isDone_55 : decode cX6_isDone 55 = .ok (.if_icmp .ne 11, 3) := by decide +kernel
theorem dX6_isDone_58 : decode cX6_isDone 58 = .ok (.aload_n 0, 1) := by decide +kernel
theorem dX6_isDone_59 : decode cX6_isDone 59 = .ok (.iload_n 2, 1) := by decide +kernel
theorem dX6_isDone_60 : decode cX6_isDone 60 = .ok (.invokevirtual 106, 3) := by decide +kernel
theorem dX6_isDone_63 : decode cX6_isDone 63 = .ok (.ifCond .eq 28, 3) := by decide +kernel
theorem dX6_isDone_66 : decode cX6_isDone 66 = .ok (.aload_n 0, 1) := by decide +kernel
theorem dX6_isDone_67 : decode cX6_isDone 67 = .ok (.aload_n 0, 1) := by decide +kernel
theorem dX6_isDone_68 : decode cX6_isDone 68 = .ok (.getfield 35, 3) := by decide +kernel
theorem dX6_isDone_71 : decode cX6_isDone 71 = .ok (.iconst 1, 1) := by decide +kernel
theorem dX6_isDone_72 : decode cX6_isDone 72 = .ok (.iaload, 1) := by decide +kernel
theorem dX6_isDone_73 : decode cX6_isDone 73 = .ok (.aload_n 0, 1) := by decide +kernel
theorem dX6_isDone_74 : decode cX6_isDone 74 = .ok (.getfield 35, 3) := by decide +kernel
theorem dX6_isDone_77 : decode cX6_isDone 77 = .ok (.iconst 2, 1) := by decide +kernel
theorem dX6_isDone_78 : decode cX6_isDone 78 = .ok (.iaload, 1) := by decide +kernel
theorem dX6_isDone_79 : decode cX6_isDone 79 = .ok (.aload_n 0, 1) := by decide +kernel
theorem dX6_isDone_80 : decode cX6_isDone 80 = .ok (.getfield 35, 3) := by decide +kernel
theorem dX6_isDone_83 : decode cX6_isDone 83 = .ok (.iconst 3, 1) := by decide +kernel
theorem dX6_isDone_84 : decode cX6_isDone 84 = .ok (.iaload, 1) := by decide +kernel
theorem dX6_isDone_85 : decode cX6_isDone 85 = .ok (.invokevirtual 112, 3) := by decide +kernel
theorem dX6_isDone_88 : decode cX6_isDone 88 = .ok (.ifCond .eq 5, 3) := by decide +kernel
theorem dX6_isDone_91 : decode cX6_isDone 91 = .ok (.iconst 0, 1) := by decide +kernel
theorem dX6_isDone_92 : decode cX6_isDone 92 = .ok (.ireturn, 1) := by decide +kernel
theorem dX6_isDone_93 : decode cX6_isDone 93 = .ok (.aload_n 0, 1) := by decide +kernel
theorem dX6_isDone_94 : decode cX6_isDone 94 = .ok (.iload_n 1, 1) := by decide +kernel
theorem dX6_isDone_95 : decode cX6_isDone 95 = .ok (.bipush 115, 2) := by decide +kernel
theorem dX6_isDone_97 : decode cX6_isDone 97 = .ok (.if_icmp .ne 10, 3) := by decide +kernel
theorem dX6_isDone_100 : decode cX6_isDone 100 = .ok (.aload_n 0, 1) := by decide +kernel
theorem dX6_isDone_101 : decode cX6_isDone 101 = .ok (.invokevirtual 63, 3) := by decide +kernel
theorem dX6_isDone_104 : decode cX6_isDone 104 = .ok (.goto 4, 3) := by decide +kernel
theorem dX6_isDone_107 : decode cX6_isDone 107 = .ok (.iload_n 2, 1) := by decide +kernel
theorem dX6_isDone_108 : decode cX6_isDone 108 = .ok (.aload_n 0, 1) := by decide +kernel
theorem dX6_isDone_109 : decode cX6_isDone 109 = .ok (.getfield 35, 3) := by decide +kernel
theorem dX6_isDone_112 : decode cX6_isDone 112 = .ok (.iconst 1, 1) := by decide +kernel
theorem dX6_isDone_113 : decode cX6_isDone 113 = .ok (.iaload, 1) := by decide +kernel
theorem dX6_isDone_114 : decode cX6_isDone 114 = .ok (.aload_n 0, 1) := by decide +kernel
theorem dX6_isDone_115 : decode cX6_isDone 115 = .ok (.getfield 35, 3) := by decide +kernel
theorem dX6_isDone_118 : decode cX6_isDone 118 = .ok (.iconst 2, 1) := by decide +kernel
theorem dX6_isDone_119 : decode cX6_isDone 119 = .ok (.iaload, 1) := by decide +kernel
theorem dX6_isDone_120 : decode cX6_isDone 120 = .ok (.aload_n 0, 1) := by decide +kernel
theorem dX6_isDone_121 : decode cX6_isDone 121 = .ok (.getfield 35, 3) := by decide +kernel
theorem dX6_isDone_124 : decode cX6_isDone 124 = .ok (.iconst 3, 1) := by decide +kernel
theorem dX6_isDone_125 : decode cX6_isDone 125 = .ok (.iaload, 1) := by decide +kernel
theorem dX6_isDone_126 : decode cX6_isDone 126 = .ok (.invokevirtual 122, 3) := by decide +kernel
theorem dX6_isDone_129 : decode cX6_isDone 129 = .ok (.iconst 1, 1) := by decide +kernel
theorem dX6_isDone_130 : decode cX6_isDone 130 = .ok (.ireturn, 1) := by decide +kernel
theorem dX6_isDone_131 : decode cX6_isDone 131 = .ok (.aload_n 0, 1) := by decide +kernel
theorem dX6_isDone_132 : decode cX6_isDone 132 = .ok (.iload_n 2, 1) := by decide +kernel
theorem dX6_isDone_133 : decode cX6_isDone 133 = .ok (.aload_n 0, 1) := by decide +kernel
theorem dX6_isDone_134 : decode cX6_isDone 134 = .ok (.getfield 35, 3) := by decide +kernel
theorem dX6_isDone_137 : decode cX6_isDone 137 = .ok (.iconst 1, 1) := by decide +kernel
theorem dX6_isDone_138 : decode cX6_isDone 138 = .ok (.iaload, 1) := by decide +kernel
theorem dX6_isDone_139 : decode cX6_isDone 139 = .ok (.aload_n 0, 1) := by decide +kernel
theorem dX6_isDone_140 : decode cX6_isDone 140 = .ok (.getfield 35, 3) := by decide +kernel
theorem dX6_isDone_143 : decode cX6_isDone 143 = .ok (.iconst 2, 1) := by decide +kernel
theorem dX6_isDone_144 : decode cX6_isDone 144 = .ok (.iaload, 1) := by decide +kernel
theorem dX6_isDone_145 : decode cX6_isDone 145 = .ok (.invokevirtual 126, 3) := by decide +kernel
theorem dX6_isDone_148 : decode cX6_isDone 148 = .ok (.ifCond .eq 5, 3) := by decide +kernel
theorem dX6_isDone_151 : decode cX6_isDone 151 = .ok (.iconst 0, 1) := by decide +kernel
theorem dX6_isDone_152 : decode cX6_isDone 152 = .ok (.ireturn, 1) := by decide +kernel
theorem dX6_isDone_153 : decode cX6_isDone 153 = .ok (.aload_n 0, 1) := by decide +kernel
theorem dX6_isDone_154 : decode cX6_isDone 154 = .ok (.iload_n 2, 1) := by decide +kernel
theorem dX6_isDone_155 : decode cX6_isDone 155 = .ok (.aload_n 0, 1) := by decide +kernel
theorem dX6_isDone_156 : decode cX6_isDone 156 = .ok (.getfield 35, 3) := by decide +kernel
theorem dX6_isDone_159 : decode cX6_isDone 159 = .ok (.iconst 1, 1) := by decide +kernel
theorem dX6_isDone_160 : decode cX6_isDone 160 = .ok (.iaload, 1) := by decide +kernel
theorem dX6_isDone_161 : decode cX6_isDone 161 = .ok (.aload_n 0, 1) := by decide +kernel
theorem dX6_isDone_162 : decode cX6_isDone 162 = .ok (.getfield 35, 3) := by decide +kernel
theorem dX6_isDone_165 : decode cX6_isDone 165 = .ok (.iconst 2, 1) := by decide +kernel
theorem dX6_isDone_166 : decode cX6_isDone 166 = .ok (.iaload, 1) := by decide +kernel
theorem dX6_isDone_167 : decode cX6_isDone 167 = .ok (.invokevirtual 129, 3) := by decide +kernel
theorem dX6_isDone_170 : decode cX6_isDone 170 = .ok (.iconst 1, 1) := by decide +kernel
theorem dX6_isDone_171 : decode cX6_isDone 171 = .ok (.ireturn, 1) := by decide +kernel
theorem dX6_isDone_172 : decode cX6_isDone 172 = .ok (.aload_n 0, 1) := by decide +kernel
theorem dX6_isDone_173 : decode cX6_isDone 173 = .ok (.iload_n 2, 1) := by decide +kernel
theorem dX6_isDone_174 : decode cX6_isDone 174 = .ok (.invokevirtual 106, 3) := by decide +kernel
theorem dX6_isDone_177 : decode cX6_isDone 177 = .ok (.ifCond .ne 5, 3) := by decide +kernel
theorem dX6_isDone_180 : decode cX6_isDone 180 = .ok (.iconst 0, 1) := by decide +kernel
theorem dX6_isDone_181 : decode cX6_isDone 181 = .ok (.ireturn, 1) := by decide +kernel
theorem dX6_isDone_182 : decode cX6_isDone 182 = .ok (.aload_n 0, 1) := by decide +kernel
theorem dX6_isDone_183 : decode cX6_isDone 183 = .ok (.iload_n 2, 1) := by decide +kernel
theorem dX6_isDone_184 : decode cX6_isDone 184 = .ok (.invokevirtual 133, 3) := by decide +kernel
theorem dX6_isDone_187 : decode cX6_isDone 187 = .ok (.iconst 1, 1) := by decide +kernel
theorem dX6_isDone_188 : decode cX6_isDone 188 = .ok (.ireturn, 1) := by decide +kernel
theorem dX6_isDone_189 : decode cX6_isDone 189 = .ok (.aload_n 0, 1) := by decide +kernel
theorem dX6_isDone_190 : decode cX6_isDone 190 = .ok (.getfield 23, 3) := by decide +kernel
theorem dX6_isDone_193 : decode cX6_isDone 193 = .ok (.iconst 0, 1) := by decide +kernel
theorem dX6_isDone_194 : decode cX6_isDone 194 = .ok (.aload_n 0, 1) := by decide +kernel
theorem dX6_isDone_195 : decode cX6_isDone 195 = .ok (.getfield 29, 3) := by decide +kernel
theorem dX6_isDone_198 : decode cX6_isDone 198 = .ok (.iconst 0, 1) := by decide +kernel
theorem dX6_isDone_199 : decode cX6_isDone 199 = .ok (.invokestatic 99, 3) := by decide +kernel
theorem dX6_isDone_202 : decode cX6_isDone 202 = .ok (.aload_n 0, 1) := by decide +kernel
theorem dX6_isDone_203 : decode cX6_isDone 203 = .ok (.invokevirtual 137, 3) := by decide +kernel
theorem dX6_isDone_206 : decode cX6_isDone 206 = .ok (.iconst 1, 1) := by decide +kernel
theorem dX6_isDone_207 : decode cX6_isDone 207 = .ok (.ireturn, 1) := by decide +kernel
theorem dX6_goesThrough_0 : decode cX6_goesThrough 0 = .ok (.aload_n 0, 1) := by decide +kernel
theorem dX6_goesThrough_1 : decode cX6_goesThrough 1 = .ok (.iconst 0, 1) := by decide +kernel
theorem dX6_goesThrough_2 : decode cX6_goesThrough 2 = .ok (.putfield 143, 3) := by decide +kernel
theorem dX6_goesThrough_5 : decode cX6_goesThrough 5 = .ok (.iconst 0, 1) := by decide +kernel
theorem dX6_goesThrough_6 : decode cX6_goesThrough 6 = .ok (.istore_n 2, 1) := by decide +kernel
theorem dX6_goesThrough_7 : decode cX6_goesThrough 7 = .ok (.aload_n 0, 1) := by decide +kernel
theorem dX6_goesThrough_8 : decode cX6_goesThrough 8 = .ok (.getfield 143, 3) := by decide +kernel
theorem dX6_goesThrough_11 : decode cX6_goesThrough 11 = .ok (.istore_n 3, 1) := by decide +kernel
theorem dX6_goesThrough_12 : decode cX6_goesThrough 12 = .ok (.aload_n 0, 1) := by decide +kernel
theorem dX6_goesThrough_13 : decode cX6_goesThrough 13 = .ok (.invokevirtual 167, 3) := by decide +kernel
theorem dX6_goesThrough_16 : decode cX6_goesThrough 16 = .ok (.istore 4, 2) := by decide +kernel
theorem dX6_goesThrough_18 : decode cX6_goesThrough 18 = .ok (.aload_n 0, 1) := by decide +kernel
theorem dX6_goesThrough_19 : decode cX6_goesThrough 19 = .ok (.getfield 146, 3) := by decide +kernel
theorem dX6_goesThrough_22 : decode cX6_goesThrough 22 = .ok (.ifCond .eq 12, 3) := by decide +kernel
theorem dX6_goesThrough_25 : decode cX6_goesThrough 25 = .ok (.sipush (-1000), 3) := by decide +kernel
theorem dX6_goesThrough_28 : decode cX6_goesThrough 28 = .ok (.aload_n 0, 1) := by decide +kernel
theorem dX6_goesThrough_29 : decode cX6_goesThrough 29 = .ok (.getfield 143, 3) := by decide +kernel
theorem dX6_goesThrough_32 : decode cX6_goesThrough 32 = .ok (.isub, 1) := by decide +kernel
theorem dX6_goesThrough_33 : decode cX6_goesThrough 33 = .ok (.ireturn, 1) := by decide +kernel
theorem dX6_goesThrough_34 : decode cX6_goesThrough 34 = .ok (.iload_n 1, 1) := by decide +kernel
theorem dX6_goesThrough_35 : decode cX6_goesThrough 35 = .ok (.ifCond .eq 18, 3) := by decide +kernel
theorem dX6_goesThrough_38 : decode cX6_goesThrough 38 = .ok (.aload_n 0, 1) := by decide +kernel
theorem dX6_goesThrough_39 : decode cX6_goesThrough 39 = .ok (.iload 4, 2) := by decide +kernel
theorem dX6_goesThrough_41 : decode cX6_goesThrough 41 = .ok (.invokevirtual 170, 3) := by decide +kernel
theorem dX6_goesThrough_44 : decode cX6_goesThrough 44 = .ok (.ifCond .ne 9, 3) := by decide +kernel
theorem dX6_goesThrough_47 : decode cX6_goesThrough 47 = .ok (.sipush (-2000), 3) := by decide +kernel
theorem dX6_goesThrough_50 : decode cX6_goesThrough 50 = .ok (.iload_n 3, 1) := by decide +kernel
theorem dX6_goesThrough_51 : decode cX6_goesThrough 51 = .ok (.isub, 1) := by decide +kernel
theorem dX6_goesThrough_52 : decode cX6_goesThrough 52 = .ok (.ireturn, 1) := by decide +kernel
theorem dX6_goesThrough_53 : decode cX6_goesThrough 53 = .ok (.iinc 2 1, 3) := by decide +kernel
theorem dX6_goesThrough_56 : decode cX6_goesThrough 56 = .ok (.aload_n 0, 1) := by decide +kernel
theorem dX6_goesThrough_57 : decode cX6_goesThrough 57 = .ok (.getfield 143, 3) := by decide +kernel
theorem dX6_goesThrough_60 : decode cX6_goesThrough 60 = .ok (.aload_n 0, 1) := by decide +kernel
theorem dX6_goesThrough_61 : decode cX6_goesThrough 61 = .ok (.getfield 140, 3) := by decide +kernel
theorem dX6_goesThrough_64 : decode cX6_goesThrough 64 = .ok (.if_icmp .lt (-57), 3) := by decide +kernel
theorem dX6_goesThrough_67 : decode cX6_goesThrough 67 = .ok (.iload_n 2, 1) := by decide +kernel
theorem dX6_goesThrough_68 : decode cX6_goesThrough 68 = .ok (.ireturn, 1) := by decide +kernel
theorem dX6_tells_0 : decode cX6_tells 0 = .ok (.aload_n 0, 1) := by decide +kernel
theorem dX6_tells_1 : decode cX6_tells 1 = .ok (.iconst 0, 1) := by decide +kernel
theorem dX6_tells_2 : decode cX6_tells 2 = .ok (.putfield 146, 3) := by decide +kernel
theorem dX6_tells_5 : decode cX6_tells 5 = .ok (.aload_n 0, 1) := by decide +kernel
theorem dX6_tells_6 : decode cX6_tells 6 = .ok (.iconst 0, 1) := by decide +kernel
theorem dX6_tells_7 : decode cX6_tells 7 = .ok (.invokevirtual 173, 3) := by decide +kernel
theorem dX6_tells_10 : decode cX6_tells 10 = .ok (.istore_n 1, 1) := by decide +kernel
theorem dX6_tells_11 : decode cX6_tells 11 = .ok (.iload_n 1, 1) := by decide +kernel
theorem dX6_tells_12 : decode cX6_tells 12 = .ok (.ifCond .le 59, 3) := by decide +kernel
theorem dX6_tells_15 : decode cX6_tells 15 = .ok (.aload_n 0, 1) := by decide +kernel
theorem dX6_tells_16 : decode cX6_tells 16 = .ok (.getfield 23, 3) := by decide +kernel
theorem dX6_tells_19 : decode cX6_tells 19 = .ok (.iconst 0, 1) := by decide +kernel
theorem dX6_tells_20 : decode cX6_tells 20 = .ok (.aload_n 0, 1) := by decide +kernel
theorem dX6_tells_21 : decode cX6_tells 21 = .ok (.getfield 38, 3) := by decide +kernel
theorem dX6_tells_24 : decode cX6_tells 24 = .ok (.iconst 0, 1) := by decide +kernel
theorem dX6_tells_25 : decode cX6_tells 25 = .ok (.invokestatic 99, 3) := by decide +kernel
theorem dX6_tells_28 : decode cX6_tells 28 = .ok (.aload_n 0, 1) := by decide +kernel
theorem dX6_tells_29 : decode cX6_tells 29 = .ok (.iconst 1, 1) := by decide +kernel
theorem dX6_tells_30 : decode cX6_tells 30 = .ok (.invokevirtual 173, 3) := by decide +kernel
theorem dX6_tells_33 : decode cX6_tells 33 = .ok (.istore_n 1, 1) := by decide +kernel
theorem dX6_tells_34 : decode cX6_tells 34 = .ok (.iload_n 1, 1) := by decide +kernel
theorem dX6_tells_35 : decode cX6_tells 35 = .ok (.ifCond .ge 19, 3) := by decide +kernel
theorem dX6_tells_38 : decode cX6_tells 38 = .ok (.aload_n 0, 1) := by decide +kernel
theorem dX6_tells_39 : decode cX6_tells 39 = .ok (.getfield 38, 3) := by decide +kernel
theorem dX6_tells_42 : decode cX6_tells 42 = .ok (.iconst 0, 1) := by decide +kernel
theorem dX6_tells_43 : decode cX6_tells 43 = .ok (.aload_n 0, 1) := by decide +kernel
theorem dX6_tells_44 : decode cX6_tells 44 = .ok (.getfield 23, 3) := by decide +kernel
theorem dX6_tells_47 : decode cX6_tells 47 = .ok (.iconst 0, 1) := by decide +kernel
theorem dX6_tells_48 : decode cX6_tells 48 = .ok (.invokestatic 99, 3) := by decide +kernel
theorem dX6_tells_51 : decode cX6_tells 51 = .ok (.goto 20, 3) := by decide +kernel
theorem dX6_tells_54 : decode cX6_tells 54 = .ok (.aload_n 0, 1) := by decide +kernel
theorem dX6_tells_55 : decode cX6_tells 55 = .ok (.getfield 38, 3) := by decide +kernel
theorem dX6_tells_58 : decode cX6_tells 58 = .ok (.iconst 0, 1) := by decide +kernel
theorem dX6_tells_59 : decode cX6_tells 59 = .ok (.aload_n 0, 1) := by decide +kernel
theorem dX6_tells_60 : decode cX6_tells 60 = .ok (.getfield 29, 3) := by decide +kernel
theorem dX6_tells_63 : decode cX6_tells 63 = .ok (.iconst 0, 1) := by decide +kernel
theorem dX6_tells_64 : decode cX6_tells 64 = .ok (.invokestatic 99, 3) := by decide +kernel
theorem dX6_tells_67 : decode cX6_tells 67 = .ok (.aload_n 0, 1) := by decide +kernel
theorem dX6_tells_68 : decode cX6_tells 68 = .ok (.invokevirtual 119, 3) := by decide +kernel
theorem dX6_tells_71 : decode cX6_tells 71 = .ok (.aload_n 0, 1) := by decide +kernel
theorem dX6_tells_72 : decode cX6_tells 72 = .ok (.iconst 0, 1) := by decide +kernel
theorem dX6_tells_73 : decode cX6_tells 73 = .ok (.putfield 140, 3) := by decide +kernel
theorem dX6_tells_76 : decode cX6_tells 76 = .ok (.iload_n 1, 1) := by decide +kernel
theorem dX6_tells_77 : decode cX6_tells 77 = .ok (.ireturn, 1) := by decide +kernel
theorem dX6_of_0 : decode cX6_of 0 = .ok (.aload_n 0, 1) := by decide +kernel
theorem dX6_of_1 : decode cX6_of 1 = .ok (.iload_n 1, 1) := by decide +kernel
theorem dX6_of_2 : decode cX6_of 2 = .ok (.invokevirtual 106, 3) := by decide +kernel
theorem dX6_of_5 : decode cX6_of 5 = .ok (.ifCond .ne 9, 3) := by decide +kernel
theorem dX6_of_8 : decode cX6_of 8 = .ok (.aload_n 0, 1) := by decide +kernel
theorem dX6_of_9 : decode cX6_of 9 = .ok (.iconst (-1), 1) := by decide +kernel
theorem dX6_of_10 : decode cX6_of 10 = .ok (.invokevirtual 177, 3) := by decide +kernel
theorem dX6_of_13 : decode cX6_of 13 = .ok (.lreturn, 1) := by decide +kernel
theorem dX6_of_14 : decode cX6_of 14 = .ok (.iload_n 2, 1) := by decide +kernel
theorem dX6_of_15 : decode cX6_of 15 = .ok (.tableswitch 76 0 7 #[45, 45, 45, 45, 45, 53, 60, 68], 45) := by decide +kernel
theorem dX6_of_60 : decode cX6_of 60 = .ok (.aload_n 0, 1) := by decide +kernel
theorem dX6_of_61 : decode cX6_of 61 = .ok (.iload_n 1, 1) := by decide +kernel
theorem dX6_of_62 : decode cX6_of 62 = .ok (.iload_n 2, 1) := by decide +kernel
theorem dX6_of_63 : decode cX6_of 63 = .ok (.invokevirtual 80, 3) := by decide +kernel
theorem dX6_of_66 : decode cX6_of 66 = .ok (.i2l, 1) := by decide +kernel
theorem dX6_of_67 : decode cX6_of 67 = .ok (.lreturn, 1) := by decide +kernel
theorem dX6_of_68 : decode cX6_of 68 = .ok (.aload_n 0, 1) := by decide +kernel
theorem dX6_of_69 : decode cX6_of 69 = .ok (.iload_n 1, 1) := by decide +kernel
theorem dX6_of_70 : decode cX6_of 70 = .ok (.invokevirtual 96, 3) := by decide +kernel
theorem dX6_of_73 : decode cX6_of 73 = .ok (.i2l, 1) := by decide +kernel
theorem dX6_of_74 : decode cX6_of 74 = .ok (.lreturn, 1) := by decide +kernel
theorem dX6_of_75 : decode cX6_of 75 = .ok (.aload_n 0, 1) := by decide +kernel
theorem dX6_of_76 : decode cX6_of 76 = .ok (.iload_n 1, 1) := by decide +kernel
theorem dX6_of_77 : decode cX6_of 77 = .ok (.iconst 0, 1) := by decide +kernel
theorem dX6_of_78 : decode cX6_of 78 = .ok (.invokevirtual 93, 3) := by decide +kernel
theorem dX6_of_81 : decode cX6_of 81 = .ok (.i2l, 1) := by decide +kernel
theorem dX6_of_82 : decode cX6_of 82 = .ok (.lreturn, 1) := by decide +kernel
theorem dX6_of_83 : decode cX6_of 83 = .ok (.aload_n 0, 1) := by decide +kernel
theorem dX6_of_84 : decode cX6_of 84 = .ok (.iload_n 1, 1) := by decide +kernel
theorem dX6_of_85 : decode cX6_of 85 = .ok (.iconst 1, 1) := by decide +kernel
theorem dX6_of_86 : decode cX6_of 86 = .ok (.invokevirtual 93, 3) := by decide +kernel
theorem dX6_of_89 : decode cX6_of 89 = .ok (.i2l, 1) := by decide +kernel
theorem dX6_of_90 : decode cX6_of 90 = .ok (.lreturn, 1) := by decide +kernel
theorem dX6_of_91 : decode cX6_of 91 = .ok (.aload_n 0, 1) := by decide +kernel
theorem dX6_of_92 : decode cX6_of 92 = .ok (.bipush (-2), 2) := by decide +kernel
theorem dX6_of_94 : decode cX6_of 94 = .ok (.invokevirtual 177, 3) := by decide +kernel
theorem dX6_of_97 : decode cX6_of 97 = .ok (.lreturn, 1) := by decide +kernel
theorem dX6_miss_0 : decode cX6_miss 0 = .ok (.iload_n 1, 1) := by decide +kernel
theorem dX6_miss_1 : decode cX6_miss 1 = .ok (.i2l, 1) := by decide +kernel
theorem dX6_miss_2 : decode cX6_miss 2 = .ok (.lconst 0, 1) := by decide +kernel
theorem dX6_miss_3 : decode cX6_miss 3 = .ok (.lconst 1, 1) := by decide +kernel
theorem dX6_miss_4 : decode cX6_miss 4 = .ok (.invokestatic 67, 3) := by decide +kernel
theorem dX6_miss_7 : decode cX6_miss 7 = .ok (.ifCond .eq 12, 3) := by decide +kernel
theorem dX6_miss_10 : decode cX6_miss 10 = .ok (.aload_n 0, 1) := by decide +kernel
theorem dX6_miss_11 : decode cX6_miss 11 = .ok (.iload_n 1, 1) := by decide +kernel
theorem dX6_miss_12 : decode cX6_miss 12 = .ok (.invokevirtual 181, 3) := by decide +kernel
theorem dX6_miss_15 : decode cX6_miss 15 = .ok (.i2l, 1) := by decide +kernel
theorem dX6_miss_16 : decode cX6_miss 16 = .ok (.goto 9, 3) := by decide +kernel
theorem dX6_miss_19 : decode cX6_miss 19 = .ok (.aload_n 0, 1) := by decide +kernel
theorem dX6_miss_20 : decode cX6_miss 20 = .ok (.bipush (-2), 2) := by decide +kernel
theorem dX6_miss_22 : decode cX6_miss 22 = .ok (.invokevirtual 177, 3) := by decide +kernel
theorem dX6_miss_25 : decode cX6_miss 25 = .ok (.lreturn, 1) := by decide +kernel
theorem dX6_common_0 : decode cX6_common 0 = .ok (.lload_n 0, 1) := by decide +kernel
theorem dX6_common_1 : decode cX6_common 1 = .ok (.lconst 0, 1) := by decide +kernel
theorem dX6_common_2 : decode cX6_common 2 = .ok (.lcmp, 1) := by decide +kernel
theorem dX6_common_3 : decode cX6_common 3 = .ok (.ifCond .ge 8, 3) := by decide +kernel
theorem dX6_common_6 : decode cX6_common 6 = .ok (.lload_n 0, 1) := by decide +kernel
theorem dX6_common_7 : decode cX6_common 7 = .ok (.lneg, 1) := by decide +kernel
theorem dX6_common_8 : decode cX6_common 8 = .ok (.goto 4, 3) := by decide +kernel
theorem dX6_common_11 : decode cX6_common 11 = .ok (.lload_n 0, 1) := by decide +kernel
theorem dX6_common_12 : decode cX6_common 12 = .ok (.lstore 4, 2) := by decide +kernel
theorem dX6_common_14 : decode cX6_common 14 = .ok (.lload_n 2, 1) := by decide +kernel
theorem dX6_common_15 : decode cX6_common 15 = .ok (.lconst 0, 1) := by decide +kernel
theorem dX6_common_16 : decode cX6_common 16 = .ok (.lcmp, 1) := by decide +kernel
theorem dX6_common_17 : decode cX6_common 17 = .ok (.ifCond .ge 8, 3) := by decide +kernel
theorem dX6_common_20 : decode cX6_common 20 = .ok (.lload_n 2, 1) := by decide +kernel
theorem dX6_common_21 : decode cX6_common 21 = .ok (.lneg, 1) := by decide +kernel
theorem dX6_common_22 : decode cX6_common 22 = .ok (.goto 4, 3) := by decide +kernel
theorem dX6_common_25 : decode cX6_common 25 = .ok (.lload_n 2, 1) := by decide +kernel
theorem dX6_common_26 : decode cX6_common 26 = .ok (.lstore 6, 2) := by decide +kernel
theorem dX6_common_28 : decode cX6_common 28 = .ok (.lload 6, 2) := by decide +kernel
theorem dX6_common_30 : decode cX6_common 30 = .ok (.lconst 0, 1) := by decide +kernel
theorem dX6_common_31 : decode cX6_common 31 = .ok (.lcmp, 1) := by decide +kernel
theorem dX6_common_32 : decode cX6_common 32 = .ok (.ifCond .eq 21, 3) := by decide +kernel
theorem dX6_common_35 : decode cX6_common 35 = .ok (.lload 4, 2) := by decide +kernel
theorem dX6_common_37 : decode cX6_common 37 = .ok (.lload 6, 2) := by decide +kernel
theorem dX6_common_39 : decode cX6_common 39 = .ok (.lrem, 1) := by decide +kernel
theorem dX6_common_40 : decode cX6_common 40 = .ok (.lstore 8, 2) := by decide +kernel
theorem dX6_common_42 : decode cX6_common 42 = .ok (.lload 6, 2) := by decide +kernel
theorem dX6_common_44 : decode cX6_common 44 = .ok (.lstore 4, 2) := by decide +kernel
theorem dX6_common_46 : decode cX6_common 46 = .ok (.lload 8, 2) := by decide +kernel
theorem dX6_common_48 : decode cX6_common 48 = .ok (.lstore 6, 2) := by decide +kernel
theorem dX6_common_50 : decode cX6_common 50 = .ok (.goto (-22), 3) := by decide +kernel
theorem dX6_common_53 : decode cX6_common 53 = .ok (.lload 4, 2) := by decide +kernel
theorem dX6_common_55 : decode cX6_common 55 = .ok (.lreturn, 1) := by decide +kernel
theorem dX6_lowest_0 : decode cX6_lowest 0 = .ok (.lload_n 0, 1) := by decide +kernel
theorem dX6_lowest_1 : decode cX6_lowest 1 = .ok (.lload_n 2, 1) := by decide +kernel
theorem dX6_lowest_2 : decode cX6_lowest 2 = .ok (.invokestatic 184, 3) := by decide +kernel
theorem dX6_lowest_5 : decode cX6_lowest 5 = .ok (.lload_n 2, 1) := by decide +kernel
theorem dX6_lowest_6 : decode cX6_lowest 6 = .ok (.lconst 0, 1) := by decide +kernel
theorem dX6_lowest_7 : decode cX6_lowest 7 = .ok (.lcmp, 1) := by decide +kernel
theorem dX6_lowest_8 : decode cX6_lowest 8 = .ok (.ifCond .ge 9, 3) := by decide +kernel
theorem dX6_lowest_11 : decode cX6_lowest 11 = .ok (.ldc2_w 188, 3) := by decide +kernel
theorem dX6_lowest_14 : decode cX6_lowest 14 = .ok (.goto 4, 3) := by decide +kernel
theorem dX6_lowest_17 : decode cX6_lowest 17 = .ok (.lconst 1, 1) := by decide +kernel
theorem dX6_lowest_18 : decode cX6_lowest 18 = .ok (.lmul, 1) := by decide +kernel
theorem dX6_lowest_19 : decode cX6_lowest 19 = .ok (.lstore 5, 2) := by decide +kernel
theorem dX6_lowest_21 : decode cX6_lowest 21 = .ok (.iload 4, 2) := by decide +kernel
theorem dX6_lowest_23 : decode cX6_lowest 23 = .ok (.ifCond .ne 7, 3) := by decide +kernel
theorem dX6_lowest_26 : decode cX6_lowest 26 = .ok (.lload_n 0, 1) := by decide +kernel
theorem dX6_lowest_27 : decode cX6_lowest 27 = .ok (.goto 4, 3) := by decide +kernel
theorem dX6_lowest_30 : decode cX6_lowest 30 = .ok (.lload_n 2, 1) := by decide +kernel
theorem dX6_lowest_31 : decode cX6_lowest 31 = .ok (.lload 5, 2) := by decide +kernel
theorem dX6_lowest_33 : decode cX6_lowest 33 = .ok (.ldiv, 1) := by decide +kernel
theorem dX6_lowest_34 : decode cX6_lowest 34 = .ok (.lreturn, 1) := by decide +kernel
theorem dX6_spreadsAll_0 : decode cX6_spreadsAll 0 = .ok (.aload_n 0, 1) := by decide +kernel
theorem dX6_spreadsAll_1 : decode cX6_spreadsAll 1 = .ok (.aload_n 0, 1) := by decide +kernel
theorem dX6_spreadsAll_2 : decode cX6_spreadsAll 2 = .ok (.invokevirtual 190, 3) := by decide +kernel
theorem dX6_spreadsAll_5 : decode cX6_spreadsAll 5 = .ok (.i2l, 1) := by decide +kernel
theorem dX6_spreadsAll_6 : decode cX6_spreadsAll 6 = .ok (.putfield 193, 3) := by decide +kernel
theorem dX6_spreadsAll_9 : decode cX6_spreadsAll 9 = .ok (.aload_n 0, 1) := by decide +kernel
theorem dX6_spreadsAll_10 : decode cX6_spreadsAll 10 = .ok (.getfield 45, 3) := by decide +kernel
theorem dX6_spreadsAll_13 : decode cX6_spreadsAll 13 = .ok (.astore_n 1, 1) := by decide +kernel
theorem dX6_spreadsAll_14 : decode cX6_spreadsAll 14 = .ok (.aload_n 1, 1) := by decide +kernel
theorem dX6_spreadsAll_15 : decode cX6_spreadsAll 15 = .ok (.iconst 0, 1) := by decide +kernel
theorem dX6_spreadsAll_16 : decode cX6_spreadsAll 16 = .ok (.lconst 0, 1) := by decide +kernel
theorem dX6_spreadsAll_17 : decode cX6_spreadsAll 17 = .ok (.lastore, 1) := by decide +kernel
theorem dX6_spreadsAll_18 : decode cX6_spreadsAll 18 = .ok (.aload_n 1, 1) := by decide +kernel
theorem dX6_spreadsAll_19 : decode cX6_spreadsAll 19 = .ok (.iconst 1, 1) := by decide +kernel
theorem dX6_spreadsAll_20 : decode cX6_spreadsAll 20 = .ok (.lconst 0, 1) := by decide +kernel
theorem dX6_spreadsAll_21 : decode cX6_spreadsAll 21 = .ok (.lastore, 1) := by decide +kernel
theorem dX6_spreadsAll_22 : decode cX6_spreadsAll 22 = .ok (.iconst 0, 1) := by decide +kernel
theorem dX6_spreadsAll_23 : decode cX6_spreadsAll 23 = .ok (.istore_n 2, 1) := by decide +kernel
theorem dX6_spreadsAll_24 : decode cX6_spreadsAll 24 = .ok (.iload_n 2, 1) := by decide +kernel
theorem dX6_spreadsAll_25 : decode cX6_spreadsAll 25 = .ok (.aload_n 0, 1) := by decide +kernel
theorem dX6_spreadsAll_26 : decode cX6_spreadsAll 26 = .ok (.invokevirtual 63, 3) := by decide +kernel
theorem dX6_spreadsAll_29 : decode cX6_spreadsAll 29 = .ok (.if_icmp .ge 85, 3) := by decide +kernel
theorem dX6_spreadsAll_32 : decode cX6_spreadsAll 32 = .ok (.iconst 0, 1) := by decide +kernel
theorem dX6_spreadsAll_33 : decode cX6_spreadsAll 33 = .ok (.istore_n 3, 1) := by decide +kernel
theorem dX6_spreadsAll_34 : decode cX6_spreadsAll 34 = .ok (.iload_n 3, 1) := by decide +kernel
theorem dX6_spreadsAll_35 : decode cX6_spreadsAll 35 = .ok (.iconst 2, 1) := by decide +kernel
theorem dX6_spreadsAll_36 : decode cX6_spreadsAll 36 = .ok (.if_icmp .ge 72, 3) := by decide +kernel
theorem dX6_spreadsAll_39 : decode cX6_spreadsAll 39 = .ok (.aload_n 0, 1) := by decide +kernel
theorem dX6_spreadsAll_40 : decode cX6_spreadsAll 40 = .ok (.getfield 41, 3) := by decide +kernel
theorem dX6_spreadsAll_43 : decode cX6_spreadsAll 43 = .ok (.iconst 2, 1) := by decide +kernel
theorem dX6_spreadsAll_44 : decode cX6_spreadsAll 44 = .ok (.iload_n 2, 1) := by decide +kernel
theorem dX6_spreadsAll_45 : decode cX6_spreadsAll 45 = .ok (.imul, 1) := by decide +kernel
theorem dX6_spreadsAll_46 : decode cX6_spreadsAll 46 = .ok (.iload_n 3, 1) := by decide +kernel
theorem dX6_spreadsAll_47 : decode cX6_spreadsAll 47 = .ok (.iadd, 1) := by decide +kernel
theorem dX6_spreadsAll_48 : decode cX6_spreadsAll 48 = .ok (.aload_n 0, 1) := by decide +kernel
theorem dX6_spreadsAll_49 : decode cX6_spreadsAll 49 = .ok (.iload_n 2, 1) := by decide +kernel
theorem dX6_spreadsAll_50 : decode cX6_spreadsAll 50 = .ok (.iload_n 3, 1) := by decide +kernel
theorem dX6_spreadsAll_51 : decode cX6_spreadsAll 51 = .ok (.invokevirtual 93, 3) := by decide +kernel
theorem dX6_spreadsAll_54 : decode cX6_spreadsAll 54 = .ok (.i2l, 1) := by decide +kernel
theorem dX6_spreadsAll_55 : decode cX6_spreadsAll 55 = .ok (.aload_n 0, 1) := by decide +kernel
theorem dX6_spreadsAll_56 : decode cX6_spreadsAll 56 = .ok (.getfield 193, 3) := by decide +kernel
theorem dX6_spreadsAll_59 : decode cX6_spreadsAll 59 = .ok (.lmul, 1) := by decide +kernel
theorem dX6_spreadsAll_60 : decode cX6_spreadsAll 60 = .ok (.aload_n 0, 1) := by decide +kernel
theorem dX6_spreadsAll_61 : decode cX6_spreadsAll 61 = .ok (.iload_n 3, 1) := by decide +kernel
theorem dX6_spreadsAll_62 : decode cX6_spreadsAll 62 = .ok (.invokevirtual 181, 3) := by decide +kernel
theorem dX6_spreadsAll_65 : decode cX6_spreadsAll 65 = .ok (.i2l, 1) := by decide +kernel
theorem dX6_spreadsAll_66 : decode cX6_spreadsAll 66 = .ok (.aload_n 0, 1) := by decide +kernel
theorem dX6_spreadsAll_67 : decode cX6_spreadsAll 67 = .ok (.iload_n 2, 1) := by decide +kernel
theorem dX6_spreadsAll_68 : decode cX6_spreadsAll 68 = .ok (.invokevirtual 96, 3) := by decide +kernel
theorem dX6_spreadsAll_71 : decode cX6_spreadsAll 71 = .ok (.i2l, 1) := by decide +kernel
theorem dX6_spreadsAll_72 : decode cX6_spreadsAll 72 = .ok (.lmul, 1) := by decide +kernel
theorem dX6_spreadsAll_73 : decode cX6_spreadsAll 73 = .ok (.lsub, 1) := by decide +kernel
theorem dX6_spreadsAll_74 : decode cX6_spreadsAll 74 = .ok (.lastore, 1) := by decide +kernel
theorem dX6_spreadsAll_75 : decode cX6_spreadsAll 75 = .ok (.aload_n 1, 1) := by decide +kernel
theorem dX6_spreadsAll_76 : decode cX6_spreadsAll 76 = .ok (.iconst 2, 1) := by decide +kernel
theorem dX6_spreadsAll_77 : decode cX6_spreadsAll 77 = .ok (.iload_n 2, 1) := by decide +kernel
theorem dX6_spreadsAll_78 : decode cX6_spreadsAll 78 = .ok (.imul, 1) := by decide +kernel
theorem dX6_spreadsAll_79 : decode cX6_spreadsAll 79 = .ok (.iconst 2, 1) := by decide +kernel
theorem dX6_spreadsAll_80 : decode cX6_spreadsAll 80 = .ok (.iadd, 1) := by decide +kernel
theorem dX6_spreadsAll_81 : decode cX6_spreadsAll 81 = .ok (.iload_n 3, 1) := by decide +kernel
theorem dX6_spreadsAll_82 : decode cX6_spreadsAll 82 = .ok (.iadd, 1) := by decide +kernel
theorem dX6_spreadsAll_83 : decode cX6_spreadsAll 83 = .ok (.aload_n 1, 1) := by decide +kernel
theorem dX6_spreadsAll_84 : decode cX6_spreadsAll 84 = .ok (.iconst 2, 1) := by decide +kernel
theorem dX6_spreadsAll_85 : decode cX6_spreadsAll 85 = .ok (.iload_n 2, 1) := by decide +kernel
theorem dX6_spreadsAll_86 : decode cX6_spreadsAll 86 = .ok (.imul, 1) := by decide +kernel
theorem dX6_spreadsAll_87 : decode cX6_spreadsAll 87 = .ok (.iload_n 3, 1) := by decide +kernel
theorem dX6_spreadsAll_88 : decode cX6_spreadsAll 88 = .ok (.iadd, 1) := by decide +kernel
theorem dX6_spreadsAll_89 : decode cX6_spreadsAll 89 = .ok (.laload, 1) := by decide +kernel
theorem dX6_spreadsAll_90 : decode cX6_spreadsAll 90 = .ok (.aload_n 0, 1) := by decide +kernel
theorem dX6_spreadsAll_91 : decode cX6_spreadsAll 91 = .ok (.getfield 41, 3) := by decide +kernel
theorem dX6_spreadsAll_94 : decode cX6_spreadsAll 94 = .ok (.iconst 2, 1) := by decide +kernel
theorem dX6_spreadsAll_95 : decode cX6_spreadsAll 95 = .ok (.iload_n 2, 1) := by decide +kernel
theorem dX6_spreadsAll_96 : decode cX6_spreadsAll 96 = .ok (.imul, 1) := by decide +kernel
theorem dX6_spreadsAll_97 : decode cX6_spreadsAll 97 = .ok (.iload_n 3, 1) := by decide +kernel
theorem dX6_spreadsAll_98 : decode cX6_spreadsAll 98 = .ok (.iadd, 1) := by decide +kernel
theorem dX6_spreadsAll_99 : decode cX6_spreadsAll 99 = .ok (.laload, 1) := by decide +kernel
theorem dX6_spreadsAll_100 : decode cX6_spreadsAll 100 = .ok (.ladd, 1) := by decide +kernel
theorem dX6_spreadsAll_101 : decode cX6_spreadsAll 101 = .ok (.lastore, 1) := by decide +kernel
theorem dX6_spreadsAll_102 : decode cX6_spreadsAll 102 = .ok (.iinc 3 1, 3) := by decide +kernel
theorem dX6_spreadsAll_105 : decode cX6_spreadsAll 105 = .ok (.goto (-71), 3) := by decide +kernel
theorem dX6_spreadsAll_108 : decode cX6_spreadsAll 108 = .ok (.iinc 2 1, 3) := by decide +kernel
theorem dX6_spreadsAll_111 : decode cX6_spreadsAll 111 = .ok (.goto (-87), 3) := by decide +kernel
theorem dX6_spreadsAll_114 : decode cX6_spreadsAll 114 = .ok (.aload_n 0, 1) := by decide +kernel
theorem dX6_spreadsAll_115 : decode cX6_spreadsAll 115 = .ok (.getfield 193, 3) := by decide +kernel
theorem dX6_spreadsAll_118 : decode cX6_spreadsAll 118 = .ok (.lconst 0, 1) := by decide +kernel
theorem dX6_spreadsAll_119 : decode cX6_spreadsAll 119 = .ok (.lcmp, 1) := by decide +kernel
theorem dX6_spreadsAll_120 : decode cX6_spreadsAll 120 = .ok (.ifCond .le 7, 3) := by decide +kernel
theorem dX6_spreadsAll_123 : decode cX6_spreadsAll 123 = .ok (.iconst 1, 1) := by decide +kernel
theorem dX6_spreadsAll_124 : decode cX6_spreadsAll 124 = .ok (.goto 4, 3) := by decide +kernel
theorem dX6_spreadsAll_127 : decode cX6_spreadsAll 127 = .ok (.iconst 0, 1) := by decide +kernel
theorem dX6_spreadsAll_128 : decode cX6_spreadsAll 128 = .ok (.ireturn, 1) := by decide +kernel
theorem dX6_isPart_0 : decode cX6_isPart 0 = .ok (.iload_n 0, 1) := by decide +kernel
theorem dX6_isPart_1 : decode cX6_isPart 1 = .ok (.i2l, 1) := by decide +kernel
theorem dX6_isPart_2 : decode cX6_isPart 2 = .ok (.lconst 0, 1) := by decide +kernel
theorem dX6_isPart_3 : decode cX6_isPart 3 = .ok (.lconst 1, 1) := by decide +kernel
theorem dX6_isPart_4 : decode cX6_isPart 4 = .ok (.invokestatic 67, 3) := by decide +kernel
theorem dX6_isPart_7 : decode cX6_isPart 7 = .ok (.ireturn, 1) := by decide +kernel
theorem dX6_spread_0 : decode cX6_spread 0 = .ok (.aload_n 0, 1) := by decide +kernel
theorem dX6_spread_1 : decode cX6_spread 1 = .ok (.iload_n 1, 1) := by decide +kernel
theorem dX6_spread_2 : decode cX6_spread 2 = .ok (.invokevirtual 106, 3) := by decide +kernel
theorem dX6_spread_5 : decode cX6_spread 5 = .ok (.ifCond .ne 9, 3) := by decide +kernel
theorem dX6_spread_8 : decode cX6_spread 8 = .ok (.aload_n 0, 1) := by decide +kernel
theorem dX6_spread_9 : decode cX6_spread 9 = .ok (.iconst (-1), 1) := by decide +kernel
theorem dX6_spread_10 : decode cX6_spread 10 = .ok (.invokevirtual 177, 3) := by decide +kernel
theorem dX6_spread_13 : decode cX6_spread 13 = .ok (.lreturn, 1) := by decide +kernel
theorem dX6_spread_14 : decode cX6_spread 14 = .ok (.iload_n 2, 1) := by decide +kernel
theorem dX6_spread_15 : decode cX6_spread 15 = .ok (.i2l, 1) := by decide +kernel
theorem dX6_spread_16 : decode cX6_spread 16 = .ok (.lconst 0, 1) := by decide +kernel
theorem dX6_spread_17 : decode cX6_spread 17 = .ok (.lconst 1, 1) := by decide +kernel
theorem dX6_spread_18 : decode cX6_spread 18 = .ok (.invokestatic 67, 3) := by decide +kernel
theorem dX6_spread_21 : decode cX6_spread 21 = .ok (.ifCond .eq 10, 3) := by decide +kernel
theorem dX6_spread_24 : decode cX6_spread 24 = .ok (.iload_n 3, 1) := by decide +kernel
theorem dX6_spread_25 : decode cX6_spread 25 = .ok (.invokestatic 197, 3) := by decide +kernel
theorem dX6_spread_28 : decode cX6_spread 28 = .ok (.ifCond .ne 10, 3) := by decide +kernel
theorem dX6_spread_31 : decode cX6_spread 31 = .ok (.aload_n 0, 1) := by decide +kernel
theorem dX6_spread_32 : decode cX6_spread 32 = .ok (.bipush (-2), 2) := by decide +kernel
theorem dX6_spread_34 : decode cX6_spread 34 = .ok (.invokevirtual 177, 3) := by decide +kernel
theorem dX6_spread_37 : decode cX6_spread 37 = .ok (.lreturn, 1) := by decide +kernel
theorem dX6_spread_38 : decode cX6_spread 38 = .ok (.aload_n 0, 1) := by decide +kernel
theorem dX6_spread_39 : decode cX6_spread 39 = .ok (.invokevirtual 200, 3) := by decide +kernel
theorem dX6_spread_42 : decode cX6_spread 42 = .ok (.ifCond .eq 24, 3) := by decide +kernel
theorem dX6_spread_45 : decode cX6_spread 45 = .ok (.aload_n 0, 1) := by decide +kernel
theorem dX6_spread_46 : decode cX6_spread 46 = .ok (.getfield 41, 3) := by decide +kernel
theorem dX6_spread_49 : decode cX6_spread 49 = .ok (.iconst 2, 1) := by decide +kernel
theorem dX6_spread_50 : decode cX6_spread 50 = .ok (.iload_n 1, 1) := by decide +kernel
theorem dX6_spread_51 : decode cX6_spread 51 = .ok (.imul, 1) := by decide +kernel
theorem dX6_spread_52 : decode cX6_spread 52 = .ok (.iload_n 2, 1) := by decide +kernel
theorem dX6_spread_53 : decode cX6_spread 53 = .ok (.iadd, 1) := by decide +kernel
theorem dX6_spread_54 : decode cX6_spread 54 = .ok (.laload, 1) := by decide +kernel
theorem dX6_spread_55 : decode cX6_spread 55 = .ok (.aload_n 0, 1) := by decide +kernel
theorem dX6_spread_56 : decode cX6_spread 56 = .ok (.getfield 193, 3) := by decide +kernel
theorem dX6_spread_59 : decode cX6_spread 59 = .ok (.iload_n 3, 1) := by decide +kernel
theorem dX6_spread_60 : decode cX6_spread 60 = .ok (.invokestatic 204, 3) := by decide +kernel
theorem dX6_spread_63 : decode cX6_spread 63 = .ok (.goto 9, 3) := by decide +kernel
theorem dX6_spread_66 : decode cX6_spread 66 = .ok (.aload_n 0, 1) := by decide +kernel
theorem dX6_spread_67 : decode cX6_spread 67 = .ok (.bipush (-3), 2) := by decide +kernel
theorem dX6_spread_69 : decode cX6_spread 69 = .ok (.invokevirtual 177, 3) := by decide +kernel
theorem dX6_spread_72 : decode cX6_spread 72 = .ok (.lreturn, 1) := by decide +kernel
theorem dX6_corner_0 : decode cX6_corner 0 = .ok (.aload_n 0, 1) := by decide +kernel
theorem dX6_corner_1 : decode cX6_corner 1 = .ok (.iload_n 1, 1) := by decide +kernel
theorem dX6_corner_2 : decode cX6_corner 2 = .ok (.invokevirtual 106, 3) := by decide +kernel
theorem dX6_corner_5 : decode cX6_corner 5 = .ok (.ifCond .ne 9, 3) := by decide +kernel
theorem dX6_corner_8 : decode cX6_corner 8 = .ok (.aload_n 0, 1) := by decide +kernel
theorem dX6_corner_9 : decode cX6_corner 9 = .ok (.iconst (-1), 1) := by decide +kernel
theorem dX6_corner_10 : decode cX6_corner 10 = .ok (.invokevirtual 177, 3) := by decide +kernel
theorem dX6_corner_13 : decode cX6_corner 13 = .ok (.lreturn, 1) := by decide +kernel
theorem dX6_corner_14 : decode cX6_corner 14 = .ok (.iload_n 2, 1) := by decide +kernel
theorem dX6_corner_15 : decode cX6_corner 15 = .ok (.i2l, 1) := by decide +kernel
theorem dX6_corner_16 : decode cX6_corner 16 = .ok (.lconst 0, 1) := by decide +kernel
theorem dX6_corner_17 : decode cX6_corner 17 = .ok (.lconst 1, 1) := by decide +kernel
theorem dX6_corner_18 : decode cX6_corner 18 = .ok (.invokestatic 67, 3) := by decide +kernel
theorem dX6_corner_21 : decode cX6_corner 21 = .ok (.ifCond .eq 10, 3) := by decide +kernel
theorem dX6_corner_24 : decode cX6_corner 24 = .ok (.iload_n 3, 1) := by decide +kernel
theorem dX6_corner_25 : decode cX6_corner 25 = .ok (.invokestatic 197, 3) := by decide +kernel
theorem dX6_corner_28 : decode cX6_corner 28 = .ok (.ifCond .ne 10, 3) := by decide +kernel
theorem dX6_corner_31 : decode cX6_corner 31 = .ok (.aload_n 0, 1) := by decide +kernel
theorem dX6_corner_32 : decode cX6_corner 32 = .ok (.bipush (-2), 2) := by decide +kernel
theorem dX6_corner_34 : decode cX6_corner 34 = .ok (.invokevirtual 177, 3) := by decide +kernel
theorem dX6_corner_37 : decode cX6_corner 37 = .ok (.lreturn, 1) := by decide +kernel
theorem dX6_corner_38 : decode cX6_corner 38 = .ok (.aload_n 0, 1) := by decide +kernel
theorem dX6_corner_39 : decode cX6_corner 39 = .ok (.invokevirtual 200, 3) := by decide +kernel
theorem dX6_corner_42 : decode cX6_corner 42 = .ok (.ifCond .eq 24, 3) := by decide +kernel
theorem dX6_corner_45 : decode cX6_corner 45 = .ok (.aload_n 0, 1) := by decide +kernel
theorem dX6_corner_46 : decode cX6_corner 46 = .ok (.getfield 45, 3) := by decide +kernel
theorem dX6_corner_49 : decode cX6_corner 49 = .ok (.iconst 2, 1) := by decide +kernel
theorem dX6_corner_50 : decode cX6_corner 50 = .ok (.iload_n 1, 1) := by decide +kernel
theorem dX6_corner_51 : decode cX6_corner 51 = .ok (.imul, 1) := by decide +kernel
theorem dX6_corner_52 : decode cX6_corner 52 = .ok (.iload_n 2, 1) := by decide +kernel
theorem dX6_corner_53 : decode cX6_corner 53 = .ok (.iadd, 1) := by decide +kernel
theorem dX6_corner_54 : decode cX6_corner 54 = .ok (.laload, 1) := by decide +kernel
theorem dX6_corner_55 : decode cX6_corner 55 = .ok (.aload_n 0, 1) := by decide +kernel
theorem dX6_corner_56 : decode cX6_corner 56 = .ok (.getfield 193, 3) := by decide +kernel
theorem dX6_corner_59 : decode cX6_corner 59 = .ok (.iload_n 3, 1) := by decide +kernel
theorem dX6_corner_60 : decode cX6_corner 60 = .ok (.invokestatic 204, 3) := by decide +kernel
theorem dX6_corner_63 : decode cX6_corner 63 = .ok (.goto 9, 3) := by decide +kernel
theorem dX6_corner_66 : decode cX6_corner 66 = .ok (.aload_n 0, 1) := by decide +kernel
theorem dX6_corner_67 : decode cX6_corner 67 = .ok (.bipush (-3), 2) := by decide +kernel
theorem dX6_corner_69 : decode cX6_corner 69 = .ok (.invokevirtual 177, 3) := by decide +kernel
theorem dX6_corner_72 : decode cX6_corner 72 = .ok (.lreturn, 1) := by decide +kernel
theorem dX6_next_0 : decode cX6_next 0 = .ok (.iload_n 1, 1) := by decide +kernel
theorem dX6_next_1 : decode cX6_next 1 = .ok (.iconst 1, 1) := by decide +kernel
theorem dX6_next_2 : decode cX6_next 2 = .ok (.iadd, 1) := by decide +kernel
theorem dX6_next_3 : decode cX6_next 3 = .ok (.aload_n 0, 1) := by decide +kernel
theorem dX6_next_4 : decode cX6_next 4 = .ok (.invokevirtual 63, 3) := by decide +kernel
theorem dX6_next_7 : decode cX6_next 7 = .ok (.if_icmp .ne 7, 3) := by decide +kernel
theorem dX6_next_10 : decode cX6_next 10 = .ok (.iconst 0, 1) := by decide +kernel
theorem dX6_next_11 : decode cX6_next 11 = .ok (.goto 6, 3) := by decide +kernel
theorem dX6_next_14 : decode cX6_next 14 = .ok (.iload_n 1, 1) := by decide +kernel
theorem dX6_next_15 : decode cX6_next 15 = .ok (.iconst 1, 1) := by decide +kernel
theorem dX6_next_16 : decode cX6_next 16 = .ok (.iadd, 1) := by decide +kernel
theorem dX6_next_17 : decode cX6_next 17 = .ok (.ireturn, 1) := by decide +kernel
theorem dX6_x_0 : decode cX6_x 0 = .ok (.aload_n 0, 1) := by decide +kernel
theorem dX6_x_1 : decode cX6_x 1 = .ok (.getfield 45, 3) := by decide +kernel
theorem dX6_x_4 : decode cX6_x 4 = .ok (.iconst 2, 1) := by decide +kernel
theorem dX6_x_5 : decode cX6_x 5 = .ok (.iload_n 1, 1) := by decide +kernel
theorem dX6_x_6 : decode cX6_x 6 = .ok (.imul, 1) := by decide +kernel
theorem dX6_x_7 : decode cX6_x 7 = .ok (.laload, 1) := by decide +kernel
theorem dX6_x_8 : decode cX6_x 8 = .ok (.lreturn, 1) := by decide +kernel
theorem dX6_y_0 : decode cX6_y 0 = .ok (.aload_n 0, 1) := by decide +kernel
theorem dX6_y_1 : decode cX6_y 1 = .ok (.getfield 45, 3) := by decide +kernel
theorem dX6_y_4 : decode cX6_y 4 = .ok (.iconst 2, 1) := by decide +kernel
theorem dX6_y_5 : decode cX6_y 5 = .ok (.iload_n 1, 1) := by decide +kernel
theorem dX6_y_6 : decode cX6_y 6 = .ok (.imul, 1) := by decide +kernel
theorem dX6_y_7 : decode cX6_y 7 = .ok (.iconst 1, 1) := by decide +kernel
theorem dX6_y_8 : decode cX6_y 8 = .ok (.iadd, 1) := by decide +kernel
theorem dX6_y_9 : decode cX6_y 9 = .ok (.laload, 1) := by decide +kernel
theorem dX6_y_10 : decode cX6_y 10 = .ok (.lreturn, 1) := by decide +kernel
theorem dX6_cross_0 : decode cX6_cross 0 = .ok (.lload 5, 2) := by decide +kernel
theorem dX6_cross_2 : decode cX6_cross 2 = .ok (.lload_n 1, 1) := by decide +kernel
theorem dX6_cross_3 : decode cX6_cross 3 = .ok (.lsub, 1) := by decide +kernel
theorem dX6_cross_4 : decode cX6_cross 4 = .ok (.lload 11, 2) := by decide +kernel
theorem dX6_cross_6 : decode cX6_cross 6 = .ok (.lload_n 3, 1) := by decide +kernel
theorem dX6_cross_7 : decode cX6_cross 7 = .ok (.lsub, 1) := by decide +kernel
theorem dX6_cross_8 : decode cX6_cross 8 = .ok (.lmul, 1) := by decide +kernel
theorem dX6_cross_9 : decode cX6_cross 9 = .ok (.lload 7, 2) := by decide +kernel
theorem dX6_cross_11 : decode cX6_cross 11 = .ok (.lload_n 3, 1) := by decide +kernel
theorem dX6_cross_12 : decode cX6_cross 12 = .ok (.lsub, 1) := by decide +kernel
theorem dX6_cross_13 : decode cX6_cross 13 = .ok (.lload 9, 2) := by decide +kernel
theorem dX6_cross_15 : decode cX6_cross 15 = .ok (.lload_n 1, 1) := by decide +kernel
theorem dX6_cross_16 : decode cX6_cross 16 = .ok (.lsub, 1) := by decide +kernel
theorem dX6_cross_17 : decode cX6_cross 17 = .ok (.lmul, 1) := by decide +kernel
theorem dX6_cross_18 : decode cX6_cross 18 = .ok (.lsub, 1) := by decide +kernel
theorem dX6_cross_19 : decode cX6_cross 19 = .ok (.lreturn, 1) := by decide +kernel
theorem dX6_three_0 : decode cX6_three 0 = .ok (.aload_n 0, 1) := by decide +kernel
theorem dX6_three_1 : decode cX6_three 1 = .ok (.aload_n 0, 1) := by decide +kernel
theorem dX6_three_2 : decode cX6_three 2 = .ok (.iload_n 1, 1) := by decide +kernel
theorem dX6_three_3 : decode cX6_three 3 = .ok (.invokevirtual 208, 3) := by decide +kernel
theorem dX6_three_6 : decode cX6_three 6 = .ok (.aload_n 0, 1) := by decide +kernel
theorem dX6_three_7 : decode cX6_three 7 = .ok (.iload_n 1, 1) := by decide +kernel
theorem dX6_three_8 : decode cX6_three 8 = .ok (.invokevirtual 211, 3) := by decide +kernel
theorem dX6_three_11 : decode cX6_three 11 = .ok (.aload_n 0, 1) := by decide +kernel
theorem dX6_three_12 : decode cX6_three 12 = .ok (.iload_n 2, 1) := by decide +kernel
theorem dX6_three_13 : decode cX6_three 13 = .ok (.invokevirtual 208, 3) := by decide +kernel
theorem dX6_three_16 : decode cX6_three 16 = .ok (.aload_n 0, 1) := by decide +kernel
theorem dX6_three_17 : decode cX6_three 17 = .ok (.iload_n 2, 1) := by decide +kernel
theorem dX6_three_18 : decode cX6_three 18 = .ok (.invokevirtual 211, 3) := by decide +kernel
theorem dX6_three_21 : decode cX6_three 21 = .ok (.aload_n 0, 1) := by decide +kernel
theorem dX6_three_22 : decode cX6_three 22 = .ok (.iload_n 3, 1) := by decide +kernel
theorem dX6_three_23 : decode cX6_three 23 = .ok (.invokevirtual 208, 3) := by decide +kernel
theorem dX6_three_26 : decode cX6_three 26 = .ok (.aload_n 0, 1) := by decide +kernel
theorem dX6_three_27 : decode cX6_three 27 = .ok (.iload_n 3, 1) := by decide +kernel
theorem dX6_three_28 : decode cX6_three 28 = .ok (.invokevirtual 211, 3) := by decide +kernel
theorem dX6_three_31 : decode cX6_three 31 = .ok (.invokevirtual 214, 3) := by decide +kernel
theorem dX6_three_34 : decode cX6_three 34 = .ok (.lreturn, 1) := by decide +kernel
theorem dX6_areaOf_0 : decode cX6_areaOf 0 = .ok (.lload_n 1, 1) := by decide +kernel
theorem dX6_areaOf_1 : decode cX6_areaOf 1 = .ok (.ldc2_w 218, 3) := by decide +kernel
theorem dX6_areaOf_4 : decode cX6_areaOf 4 = .ok (.aload_n 0, 1) := by decide +kernel
theorem dX6_areaOf_5 : decode cX6_areaOf 5 = .ok (.getfield 193, 3) := by decide +kernel
theorem dX6_areaOf_8 : decode cX6_areaOf 8 = .ok (.lmul, 1) := by decide +kernel
theorem dX6_areaOf_9 : decode cX6_areaOf 9 = .ok (.aload_n 0, 1) := by decide +kernel
theorem dX6_areaOf_10 : decode cX6_areaOf 10 = .ok (.getfield 193, 3) := by decide +kernel
theorem dX6_areaOf_13 : decode cX6_areaOf 13 = .ok (.lmul, 1) := by decide +kernel
theorem dX6_areaOf_14 : decode cX6_areaOf 14 = .ok (.iload_n 3, 1) := by decide +kernel
theorem dX6_areaOf_15 : decode cX6_areaOf 15 = .ok (.invokestatic 204, 3) := by decide +kernel
theorem dX6_areaOf_18 : decode cX6_areaOf 18 = .ok (.lreturn, 1) := by decide +kernel
theorem dX6_area_0 : decode cX6_area 0 = .ok (.iload_n 1, 1) := by decide +kernel
theorem dX6_area_1 : decode cX6_area 1 = .ok (.invokestatic 197, 3) := by decide +kernel
theorem dX6_area_4 : decode cX6_area 4 = .ok (.ifCond .ne 10, 3) := by decide +kernel
theorem dX6_area_7 : decode cX6_area 7 = .ok (.aload_n 0, 1) := by decide +kernel
theorem dX6_area_8 : decode cX6_area 8 = .ok (.bipush (-2), 2) := by decide +kernel
theorem dX6_area_10 : decode cX6_area 10 = .ok (.invokevirtual 177, 3) := by decide +kernel
theorem dX6_area_13 : decode cX6_area 13 = .ok (.lreturn, 1) := by decide +kernel
theorem dX6_area_14 : decode cX6_area 14 = .ok (.aload_n 0, 1) := by decide +kernel
theorem dX6_area_15 : decode cX6_area 15 = .ok (.invokevirtual 200, 3) := by decide +kernel
theorem dX6_area_18 : decode cX6_area 18 = .ok (.ifCond .ne 10, 3) := by decide +kernel
theorem dX6_area_21 : decode cX6_area 21 = .ok (.aload_n 0, 1) := by decide +kernel
theorem dX6_area_22 : decode cX6_area 22 = .ok (.bipush (-3), 2) := by decide +kernel
theorem dX6_area_24 : decode cX6_area 24 = .ok (.invokevirtual 177, 3) := by decide +kernel
theorem dX6_area_27 : decode cX6_area 27 = .ok (.lreturn, 1) := by decide +kernel
theorem dX6_area_28 : decode cX6_area 28 = .ok (.lconst 0, 1) := by decide +kernel
theorem dX6_area_29 : decode cX6_area 29 = .ok (.lstore_n 2, 1) := by decide +kernel
theorem dX6_area_30 : decode cX6_area 30 = .ok (.iconst 0, 1) := by decide +kernel
theorem dX6_area_31 : decode cX6_area 31 = .ok (.istore 4, 2) := by decide +kernel
theorem dX6_area_33 : decode cX6_area 33 = .ok (.iload 4, 2) := by decide +kernel
theorem dX6_area_35 : decode cX6_area 35 = .ok (.aload_n 0, 1) := by decide +kernel
theorem dX6_area_36 : decode cX6_area 36 = .ok (.invokevirtual 63, 3) := by decide +kernel
theorem dX6_area_39 : decode cX6_area 39 = .ok (.if_icmp .ge 47, 3) := by decide +kernel
theorem dX6_area_42 : decode cX6_area 42 = .ok (.lload_n 2, 1) := by decide +kernel
theorem dX6_area_43 : decode cX6_area 43 = .ok (.aload_n 0, 1) := by decide +kernel
theorem dX6_area_44 : decode cX6_area 44 = .ok (.iload 4, 2) := by decide +kernel
theorem dX6_area_46 : decode cX6_area 46 = .ok (.invokevirtual 208, 3) := by decide +kernel
theorem dX6_area_49 : decode cX6_area 49 = .ok (.aload_n 0, 1) := by decide +kernel
theorem dX6_area_50 : decode cX6_area 50 = .ok (.aload_n 0, 1) := by decide +kernel
theorem dX6_area_51 : decode cX6_area 51 = .ok (.iload 4, 2) := by decide +kernel
theorem dX6_area_53 : decode cX6_area 53 = .ok (.invokevirtual 220, 3) := by decide +kernel
theorem dX6_area_56 : decode cX6_area 56 = .ok (.invokevirtual 211, 3) := by decide +kernel
theorem dX6_area_59 : decode cX6_area 59 = .ok (.lmul, 1) := by decide +kernel
theorem dX6_area_60 : decode cX6_area 60 = .ok (.aload_n 0, 1) := by decide +kernel
theorem dX6_area_61 : decode cX6_area 61 = .ok (.iload 4, 2) := by decide +kernel
theorem dX6_area_63 : decode cX6_area 63 = .ok (.invokevirtual 211, 3) := by decide +kernel
theorem dX6_area_66 : decode cX6_area 66 = .ok (.aload_n 0, 1) := by decide +kernel
theorem dX6_area_67 : decode cX6_area 67 = .ok (.aload_n 0, 1) := by decide +kernel
theorem dX6_area_68 : decode cX6_area 68 = .ok (.iload 4, 2) := by decide +kernel
theorem dX6_area_70 : decode cX6_area 70 = .ok (.invokevirtual 220, 3) := by decide +kernel
theorem dX6_area_73 : decode cX6_area 73 = .ok (.invokevirtual 208, 3) := by decide +kernel
theorem dX6_area_76 : decode cX6_area 76 = .ok (.lmul, 1) := by decide +kernel
theorem dX6_area_77 : decode cX6_area 77 = .ok (.lsub, 1) := by decide +kernel
theorem dX6_area_78 : decode cX6_area 78 = .ok (.ladd, 1) := by decide +kernel
theorem dX6_area_79 : decode cX6_area 79 = .ok (.lstore_n 2, 1) := by decide +kernel
theorem dX6_area_80 : decode cX6_area 80 = .ok (.iinc 4 1, 3) := by decide +kernel
theorem dX6_area_83 : decode cX6_area 83 = .ok (.goto (-50), 3) := by decide +kernel
theorem dX6_area_86 : decode cX6_area 86 = .ok (.aload_n 0, 1) := by decide +kernel
theorem dX6_area_87 : decode cX6_area 87 = .ok (.lload_n 2, 1) := by decide +kernel
theorem dX6_area_88 : decode cX6_area 88 = .ok (.iload_n 1, 1) := by decide +kernel
theorem dX6_area_89 : decode cX6_area 89 = .ok (.invokevirtual 223, 3) := by decide +kernel
theorem dX6_area_92 : decode cX6_area 92 = .ok (.lreturn, 1) := by decide +kernel
theorem dX6_turn_0 : decode cX6_turn 0 = .ok (.aload_n 0, 1) := by decide +kernel
theorem dX6_turn_1 : decode cX6_turn 1 = .ok (.iload_n 1, 1) := by decide +kernel
theorem dX6_turn_2 : decode cX6_turn 2 = .ok (.invokevirtual 106, 3) := by decide +kernel
theorem dX6_turn_5 : decode cX6_turn 5 = .ok (.ifCond .ne 9, 3) := by decide +kernel
theorem dX6_turn_8 : decode cX6_turn 8 = .ok (.aload_n 0, 1) := by decide +kernel
theorem dX6_turn_9 : decode cX6_turn 9 = .ok (.iconst (-1), 1) := by decide +kernel
theorem dX6_turn_10 : decode cX6_turn 10 = .ok (.invokevirtual 13, 3) := by decide +kernel
theorem dX6_turn_13 : decode cX6_turn 13 = .ok (.ireturn, 1) := by decide +kernel
theorem dX6_turn_14 : decode cX6_turn 14 = .ok (.aload_n 0, 1) := by decide +kernel
theorem dX6_turn_15 : decode cX6_turn 15 = .ok (.invokevirtual 200, 3) := by decide +kernel
theorem dX6_turn_18 : decode cX6_turn 18 = .ok (.ifCond .ne 10, 3) := by decide +kernel
theorem dX6_turn_21 : decode cX6_turn 21 = .ok (.aload_n 0, 1) := by decide +kernel
theorem dX6_turn_22 : decode cX6_turn 22 = .ok (.bipush (-3), 2) := by decide +kernel
theorem dX6_turn_24 : decode cX6_turn 24 = .ok (.invokevirtual 13, 3) := by decide +kernel
theorem dX6_turn_27 : decode cX6_turn 27 = .ok (.ireturn, 1) := by decide +kernel
theorem dX6_turn_28 : decode cX6_turn 28 = .ok (.iload_n 1, 1) := by decide +kernel
theorem dX6_turn_29 : decode cX6_turn 29 = .ok (.ifCond .ne 12, 3) := by decide +kernel
theorem dX6_turn_32 : decode cX6_turn 32 = .ok (.aload_n 0, 1) := by decide +kernel
theorem dX6_turn_33 : decode cX6_turn 33 = .ok (.invokevirtual 63, 3) := by decide +kernel
theorem dX6_turn_36 : decode cX6_turn 36 = .ok (.iconst 1, 1) := by decide +kernel
theorem dX6_turn_37 : decode cX6_turn 37 = .ok (.isub, 1) := by decide +kernel
theorem dX6_turn_38 : decode cX6_turn 38 = .ok (.goto 6, 3) := by decide +kernel
theorem dX6_turn_41 : decode cX6_turn 41 = .ok (.iload_n 1, 1) := by decide +kernel
theorem dX6_turn_42 : decode cX6_turn 42 = .ok (.iconst 1, 1) := by decide +kernel
theorem dX6_turn_43 : decode cX6_turn 43 = .ok (.isub, 1) := by decide +kernel
theorem dX6_turn_44 : decode cX6_turn 44 = .ok (.istore_n 2, 1) := by decide +kernel
theorem dX6_turn_45 : decode cX6_turn 45 = .ok (.aload_n 0, 1) := by decide +kernel
theorem dX6_turn_46 : decode cX6_turn 46 = .ok (.getfield 41, 3) := by decide +kernel
theorem dX6_turn_49 : decode cX6_turn 49 = .ok (.iconst 2, 1) := by decide +kernel
theorem dX6_turn_50 : decode cX6_turn 50 = .ok (.iload_n 2, 1) := by decide +kernel
theorem dX6_turn_51 : decode cX6_turn 51 = .ok (.imul, 1) := by decide +kernel
theorem dX6_turn_52 : decode cX6_turn 52 = .ok (.laload, 1) := by decide +kernel
theorem dX6_turn_53 : decode cX6_turn 53 = .ok (.lstore_n 3, 1) := by decide +kernel
theorem dX6_turn_54 : decode cX6_turn 54 = .ok (.aload_n 0, 1) := by decide +kernel
theorem dX6_turn_55 : decode cX6_turn 55 = .ok (.getfield 41, 3) := by decide +kernel
theorem dX6_turn_58 : decode cX6_turn 58 = .ok (.iconst 2, 1) := by decide +kernel
theorem dX6_turn_59 : decode cX6_turn 59 = .ok (.iload_n 2, 1) := by decide +kernel
theorem dX6_turn_60 : decode cX6_turn 60 = .ok (.imul, 1) := by decide +kernel
theorem dX6_turn_61 : decode cX6_turn 61 = .ok (.iconst 1, 1) := by decide +kernel
theorem dX6_turn_62 : decode cX6_turn 62 = .ok (.iadd, 1) := by decide +kernel
theorem dX6_turn_63 : decode cX6_turn 63 = .ok (.laload, 1) := by decide +kernel
theorem dX6_turn_64 : decode cX6_turn 64 = .ok (.lstore 5, 2) := by decide +kernel
theorem dX6_turn_66 : decode cX6_turn 66 = .ok (.aload_n 0, 1) := by decide +kernel
theorem dX6_turn_67 : decode cX6_turn 67 = .ok (.getfield 41, 3) := by decide +kernel
theorem dX6_turn_70 : decode cX6_turn 70 = .ok (.iconst 2, 1) := by decide +kernel
theorem dX6_turn_71 : decode cX6_turn 71 = .ok (.iload_n 1, 1) := by decide +kernel
theorem dX6_turn_72 : decode cX6_turn 72 = .ok (.imul, 1) := by decide +kernel
theorem dX6_turn_73 : decode cX6_turn 73 = .ok (.laload, 1) := by decide +kernel
theorem dX6_turn_74 : decode cX6_turn 74 = .ok (.lstore 7, 2) := by decide +kernel
theorem dX6_turn_76 : decode cX6_turn 76 = .ok (.aload_n 0, 1) := by decide +kernel
theorem dX6_turn_77 : decode cX6_turn 77 = .ok (.getfield 41, 3) := by decide +kernel
theorem dX6_turn_80 : decode cX6_turn 80 = .ok (.iconst 2, 1) := by decide +kernel
theorem dX6_turn_81 : decode cX6_turn 81 = .ok (.iload_n 1, 1) := by decide +kernel
theorem dX6_turn_82 : decode cX6_turn 82 = .ok (.imul, 1) := by decide +kernel
theorem dX6_turn_83 : decode cX6_turn 83 = .ok (.iconst 1, 1) := by decide +kernel
theorem dX6_turn_84 : decode cX6_turn 84 = .ok (.iadd, 1) := by decide +kernel
theorem dX6_turn_85 : decode cX6_turn 85 = .ok (.laload, 1) := by decide +kernel
theorem dX6_turn_86 : decode cX6_turn 86 = .ok (.lstore 9, 2) := by decide +kernel
theorem dX6_turn_88 : decode cX6_turn 88 = .ok (.lload_n 3, 1) := by decide +kernel
theorem dX6_turn_89 : decode cX6_turn 89 = .ok (.lconst 0, 1) := by decide +kernel
theorem dX6_turn_90 : decode cX6_turn 90 = .ok (.lcmp, 1) := by decide +kernel
theorem dX6_turn_91 : decode cX6_turn 91 = .ok (.ifCond .ne 10, 3) := by decide +kernel
theorem dX6_turn_94 : decode cX6_turn 94 = .ok (.lload 5, 2) := by decide +kernel
theorem dX6_turn_96 : decode cX6_turn 96 = .ok (.lconst 0, 1) := by decide +kernel
theorem dX6_turn_97 : decode cX6_turn 97 = .ok (.lcmp, 1) := by decide +kernel
theorem dX6_turn_98 : decode cX6_turn 98 = .ok (.ifCond .eq 17, 3) := by decide +kernel
theorem dX6_turn_101 : decode cX6_turn 101 = .ok (.lload 7, 2) := by decide +kernel
theorem dX6_turn_103 : decode cX6_turn 103 = .ok (.lconst 0, 1) := by decide +kernel
theorem dX6_turn_104 : decode cX6_turn 104 = .ok (.lcmp, 1) := by decide +kernel
theorem dX6_turn_105 : decode cX6_turn 105 = .ok (.ifCond .ne 12, 3) := by decide +kernel
theorem dX6_turn_108 : decode cX6_turn 108 = .ok (.lload 9, 2) := by decide +kernel
theorem dX6_turn_110 : decode cX6_turn 110 = .ok (.lconst 0, 1) := by decide +kernel
theorem dX6_turn_111 : decode cX6_turn 111 = .ok (.lcmp, 1) := by decide +kernel
theorem dX6_turn_112 : decode cX6_turn 112 = .ok (.ifCond .ne 5, 3) := by decide +kernel
theorem dX6_turn_115 : decode cX6_turn 115 = .ok (.iconst 4, 1) := by decide +kernel
theorem dX6_turn_116 : decode cX6_turn 116 = .ok (.ireturn, 1) := by decide +kernel
theorem dX6_turn_117 : decode cX6_turn 117 = .ok (.lload_n 3, 1) := by decide +kernel
theorem dX6_turn_118 : decode cX6_turn 118 = .ok (.lload 9, 2) := by decide +kernel
theorem dX6_turn_120 : decode cX6_turn 120 = .ok (.lmul, 1) := by decide +kernel
theorem dX6_turn_121 : decode cX6_turn 121 = .ok (.lload 5, 2) := by decide +kernel
theorem dX6_turn_123 : decode cX6_turn 123 = .ok (.lload 7, 2) := by decide +kernel
theorem dX6_turn_125 : decode cX6_turn 125 = .ok (.lmul, 1) := by decide +kernel
theorem dX6_turn_126 : decode cX6_turn 126 = .ok (.lsub, 1) := by decide +kernel
theorem dX6_turn_127 : decode cX6_turn 127 = .ok (.lstore 11, 2) := by decide +kernel
theorem dX6_turn_129 : decode cX6_turn 129 = .ok (.lload 11, 2) := by decide +kernel
theorem dX6_turn_131 : decode cX6_turn 131 = .ok (.lconst 0, 1) := by decide +kernel
theorem dX6_turn_132 : decode cX6_turn 132 = .ok (.lcmp, 1) := by decide +kernel
theorem dX6_turn_133 : decode cX6_turn 133 = .ok (.ifCond .le 7, 3) := by decide +kernel
theorem dX6_turn_136 : decode cX6_turn 136 = .ok (.iconst 1, 1) := by decide +kernel
theorem dX6_turn_137 : decode cX6_turn 137 = .ok (.goto 34, 3) := by decide +kernel
theorem dX6_turn_140 : decode cX6_turn 140 = .ok (.lload 11, 2) := by decide +kernel
theorem dX6_turn_142 : decode cX6_turn 142 = .ok (.lconst 0, 1) := by decide +kernel
theorem dX6_turn_143 : decode cX6_turn 143 = .ok (.lcmp, 1) := by decide +kernel
theorem dX6_turn_144 : decode cX6_turn 144 = .ok (.ifCond .ge 7, 3) := by decide +kernel
theorem dX6_turn_147 : decode cX6_turn 147 = .ok (.iconst 2, 1) := by decide +kernel
theorem dX6_turn_148 : decode cX6_turn 148 = .ok (.goto 23, 3) := by decide +kernel
theorem dX6_turn_151 : decode cX6_turn 151 = .ok (.lload_n 3, 1) := by decide +kernel
theorem dX6_turn_152 : decode cX6_turn 152 = .ok (.lload 7, 2) := by decide +kernel
theorem dX6_turn_154 : decode cX6_turn 154 = .ok (.lmul, 1) := by decide +kernel
theorem dX6_turn_155 : decode cX6_turn 155 = .ok (.lload 5, 2) := by decide +kernel
theorem dX6_turn_157 : decode cX6_turn 157 = .ok (.lload 9, 2) := by decide +kernel
theorem dX6_turn_159 : decode cX6_turn 159 = .ok (.lmul, 1) := by decide +kernel
theorem dX6_turn_160 : decode cX6_turn 160 = .ok (.ladd, 1) := by decide +kernel
theorem dX6_turn_161 : decode cX6_turn 161 = .ok (.lconst 0, 1) := by decide +kernel
theorem dX6_turn_162 : decode cX6_turn 162 = .ok (.lcmp, 1) := by decide +kernel
theorem dX6_turn_163 : decode cX6_turn 163 = .ok (.ifCond .ge 7, 3) := by decide +kernel
theorem dX6_turn_166 : decode cX6_turn 166 = .ok (.iconst 3, 1) := by decide +kernel
theorem dX6_turn_167 : decode cX6_turn 167 = .ok (.goto 4, 3) := by decide +kernel
theorem dX6_turn_170 : decode cX6_turn 170 = .ok (.iconst 0, 1) := by decide +kernel
theorem dX6_turn_171 : decode cX6_turn 171 = .ok (.ireturn, 1) := by decide +kernel
theorem dX6_sign_0 : decode cX6_sign 0 = .ok (.lload_n 0, 1) := by decide +kernel
theorem dX6_sign_1 : decode cX6_sign 1 = .ok (.lconst 0, 1) := by decide +kernel
theorem dX6_sign_2 : decode cX6_sign 2 = .ok (.lcmp, 1) := by decide +kernel
theorem dX6_sign_3 : decode cX6_sign 3 = .ok (.ifCond .le 7, 3) := by decide +kernel
theorem dX6_sign_6 : decode cX6_sign 6 = .ok (.iconst 1, 1) := by decide +kernel
theorem dX6_sign_7 : decode cX6_sign 7 = .ok (.goto 14, 3) := by decide +kernel
theorem dX6_sign_10 : decode cX6_sign 10 = .ok (.lload_n 0, 1) := by decide +kernel
theorem dX6_sign_11 : decode cX6_sign 11 = .ok (.lconst 0, 1) := by decide +kernel
theorem dX6_sign_12 : decode cX6_sign 12 = .ok (.lcmp, 1) := by decide +kernel
theorem dX6_sign_13 : decode cX6_sign 13 = .ok (.ifCond .ge 7, 3) := by decide +kernel
theorem dX6_sign_16 : decode cX6_sign 16 = .ok (.iconst (-1), 1) := by decide +kernel
theorem dX6_sign_17 : decode cX6_sign 17 = .ok (.goto 4, 3) := by decide +kernel
theorem dX6_sign_20 : decode cX6_sign 20 = .ok (.iconst 0, 1) := by decide +kernel
theorem dX6_sign_21 : decode cX6_sign 21 = .ok (.ireturn, 1) := by decide +kernel
theorem dX6_isBetween_0 : decode cX6_isBetween 0 = .ok (.lload_n 0, 1) := by decide +kernel
theorem dX6_isBetween_1 : decode cX6_isBetween 1 = .ok (.lload_n 2, 1) := by decide +kernel
theorem dX6_isBetween_2 : decode cX6_isBetween 2 = .ok (.lload 4, 2) := by decide +kernel
theorem dX6_isBetween_4 : decode cX6_isBetween 4 = .ok (.invokestatic 227, 3) := by decide +kernel
theorem dX6_isBetween_7 : decode cX6_isBetween 7 = .ok (.lcmp, 1) := by decide +kernel
theorem dX6_isBetween_8 : decode cX6_isBetween 8 = .ok (.ifCond .lt 18, 3) := by decide +kernel
theorem dX6_isBetween_11 : decode cX6_isBetween 11 = .ok (.lload_n 0, 1) := by decide +kernel
theorem dX6_isBetween_12 : decode cX6_isBetween 12 = .ok (.lload_n 2, 1) := by decide +kernel
theorem dX6_isBetween_13 : decode cX6_isBetween 13 = .ok (.lload 4, 2) := by decide +kernel
theorem dX6_isBetween_15 : decode cX6_isBetween 15 = .ok (.invokestatic 230, 3) := by decide +kernel
theorem dX6_isBetween_18 : decode cX6_isBetween 18 = .ok (.lcmp, 1) := by decide +kernel
theorem dX6_isBetween_19 : decode cX6_isBetween 19 = .ok (.ifCond .gt 7, 3) := by decide +kernel
theorem dX6_isBetween_22 : decode cX6_isBetween 22 = .ok (.iconst 1, 1) := by decide +kernel
theorem dX6_isBetween_23 : decode cX6_isBetween 23 = .ok (.goto 4, 3) := by decide +kernel
theorem dX6_isBetween_26 : decode cX6_isBetween 26 = .ok (.iconst 0, 1) := by decide +kernel
theorem dX6_isBetween_27 : decode cX6_isBetween 27 = .ok (.ireturn, 1) := by decide +kernel
theorem dX6_isOn_0 : decode cX6_isOn 0 = .ok (.aload_n 0, 1) := by decide +kernel
theorem dX6_isOn_1 : decode cX6_isOn 1 = .ok (.iload_n 2, 1) := by decide +kernel
theorem dX6_isOn_2 : decode cX6_isOn 2 = .ok (.iload_n 3, 1) := by decide +kernel
theorem dX6_isOn_3 : decode cX6_isOn 3 = .ok (.iload_n 1, 1) := by decide +kernel
theorem dX6_isOn_4 : decode cX6_isOn 4 = .ok (.invokevirtual 232, 3) := by decide +kernel
theorem dX6_isOn_7 : decode cX6_isOn 7 = .ok (.lconst 0, 1) := by decide +kernel
theorem dX6_isOn_8 : decode cX6_isOn 8 = .ok (.lcmp, 1) := by decide +kernel
theorem dX6_isOn_9 : decode cX6_isOn 9 = .ok (.ifCond .ne 49, 3) := by decide +kernel
theorem dX6_isOn_12 : decode cX6_isOn 12 = .ok (.aload_n 0, 1) := by decide +kernel
theorem dX6_isOn_13 : decode cX6_isOn 13 = .ok (.iload_n 1, 1) := by decide +kernel
theorem dX6_isOn_14 : decode cX6_isOn 14 = .ok (.invokevirtual 208, 3) := by decide +kernel
theorem dX6_isOn_17 : decode cX6_isOn 17 = .ok (.aload_n 0, 1) := by decide +kernel
theorem dX6_isOn_18 : decode cX6_isOn 18 = .ok (.iload_n 2, 1) := by decide +kernel
theorem dX6_isOn_19 : decode cX6_isOn 19 = .ok (.invokevirtual 208, 3) := by decide +kernel
theorem dX6_isOn_22 : decode cX6_isOn 22 = .ok (.aload_n 0, 1) := by decide +kernel
theorem dX6_isOn_23 : decode cX6_isOn 23 = .ok (.iload_n 3, 1) := by decide +kernel
theorem dX6_isOn_24 : decode cX6_isOn 24 = .ok (.invokevirtual 208, 3) := by decide +kernel
theorem dX6_isOn_27 : decode cX6_isOn 27 = .ok (.invokestatic 236, 3) := by decide +kernel
theorem dX6_isOn_30 : decode cX6_isOn 30 = .ok (.ifCond .eq 28, 3) := by decide +kernel
theorem dX6_isOn_33 : decode cX6_isOn 33 = .ok (.aload_n 0, 1) := by decide +kernel
theorem dX6_isOn_34 : decode cX6_isOn 34 = .ok (.iload_n 1, 1) := by decide +kernel
theorem dX6_isOn_35 : decode cX6_isOn 35 = .ok (.invokevirtual 211, 3) := by decide +kernel
theorem dX6_isOn_38 : decode cX6_isOn 38 = .ok (.aload_n 0, 1) := by decide +kernel
theorem dX6_isOn_39 : decode cX6_isOn 39 = .ok (.iload_n 2, 1) := by decide +kernel
theorem dX6_isOn_40 : decode cX6_isOn 40 = .ok (.invokevirtual 211, 3) := by decide +kernel
theorem dX6_isOn_43 : decode cX6_isOn 43 = .ok (.aload_n 0, 1) := by decide +kernel
theorem dX6_isOn_44 : decode cX6_isOn 44 = .ok (.iload_n 3, 1) := by decide +kernel
theorem dX6_isOn_45 : decode cX6_isOn 45 = .ok (.invokevirtual 211, 3) := by decide +kernel
theorem dX6_isOn_48 : decode cX6_isOn 48 = .ok (.invokestatic 236, 3) := by decide +kernel
theorem dX6_isOn_51 : decode cX6_isOn 51 = .ok (.ifCond .eq 7, 3) := by decide +kernel
theorem dX6_isOn_54 : decode cX6_isOn 54 = .ok (.iconst 1, 1) := by decide +kernel
theorem dX6_isOn_55 : decode cX6_isOn 55 = .ok (.goto 4, 3) := by decide +kernel
theorem dX6_isOn_58 : decode cX6_isOn 58 = .ok (.iconst 0, 1) := by decide +kernel
theorem dX6_isOn_59 : decode cX6_isOn 59 = .ok (.ireturn, 1) := by decide +kernel
theorem dX6_doCross_0 : decode cX6_doCross 0 = .ok (.aload_n 0, 1) := by decide +kernel
theorem dX6_doCross_1 : decode cX6_doCross 1 = .ok (.iload_n 1, 1) := by decide +kernel
theorem dX6_doCross_2 : decode cX6_doCross 2 = .ok (.invokevirtual 220, 3) := by decide +kernel
theorem dX6_doCross_5 : decode cX6_doCross 5 = .ok (.istore_n 3, 1) := by decide +kernel
theorem dX6_doCross_6 : decode cX6_doCross 6 = .ok (.aload_n 0, 1) := by decide +kernel
theorem dX6_doCross_7 : decode cX6_doCross 7 = .ok (.iload_n 2, 1) := by decide +kernel
theorem dX6_doCross_8 : decode cX6_doCross 8 = .ok (.invokevirtual 220, 3) := by decide +kernel
theorem dX6_doCross_11 : decode cX6_doCross 11 = .ok (.istore 4, 2) := by decide +kernel
theorem dX6_doCross_13 : decode cX6_doCross 13 = .ok (.aload_n 0, 1) := by decide +kernel
theorem dX6_doCross_14 : decode cX6_doCross 14 = .ok (.iload_n 2, 1) := by decide +kernel
theorem dX6_doCross_15 : decode cX6_doCross 15 = .ok (.iload_n 1, 1) := by decide +kernel
theorem dX6_doCross_16 : decode cX6_doCross 16 = .ok (.iload_n 3, 1) := by decide +kernel
theorem dX6_doCross_17 : decode cX6_doCross 17 = .ok (.invokevirtual 239, 3) := by decide +kernel
theorem dX6_doCross_20 : decode cX6_doCross 20 = .ok (.ifCond .ne 36, 3) := by decide +kernel
theorem dX6_doCross_23 : decode cX6_doCross 23 = .ok (.aload_n 0, 1) := by decide +kernel
theorem dX6_doCross_24 : decode cX6_doCross 24 = .ok (.iload 4, 2) := by decide +kernel
theorem dX6_doCross_26 : decode cX6_doCross 26 = .ok (.iload_n 1, 1) := by decide +kernel
theorem dX6_doCross_27 : decode cX6_doCross 27 = .ok (.iload_n 3, 1) := by decide +kernel
theorem dX6_doCross_28 : decode cX6_doCross 28 = .ok (.invokevirtual 239, 3) := by decide +kernel
theorem dX6_doCross_31 : decode cX6_doCross 31 = .ok (.ifCond .ne 25, 3) := by decide +kernel
theorem dX6_doCross_34 : decode cX6_doCross 34 = .ok (.aload_n 0, 1) := by decide +kernel
theorem dX6_doCross_35 : decode cX6_doCross 35 = .ok (.iload_n 1, 1) := by decide +kernel
theorem dX6_doCross_36 : decode cX6_doCross 36 = .ok (.iload_n 2, 1) := by decide +kernel
theorem dX6_doCross_37 : decode cX6_doCross 37 = .ok (.iload 4, 2) := by decide +kernel
theorem dX6_doCross_39 : decode cX6_doCross 39 = .ok (.invokevirtual 239, 3) := by decide +kernel
theorem dX6_doCross_42 : decode cX6_doCross 42 = .ok (.ifCond .ne 14, 3) := by decide +kernel
theorem dX6_doCross_45 : decode cX6_doCross 45 = .ok (.aload_n 0, 1) := by decide +kernel
theorem dX6_doCross_46 : decode cX6_doCross 46 = .ok (.iload_n 3, 1) := by decide +kernel
theorem dX6_doCross_47 : decode cX6_doCross 47 = .ok (.iload_n 2, 1) := by decide +kernel
theorem dX6_doCross_48 : decode cX6_doCross 48 = .ok (.iload 4, 2) := by decide +kernel
theorem dX6_doCross_50 : decode cX6_doCross 50 = .ok (.invokevirtual 239, 3) := by decide +kernel
theorem dX6_doCross_53 : decode cX6_doCross 53 = .ok (.ifCond .eq 5, 3) := by decide +kernel
theorem dX6_doCross_56 : decode cX6_doCross 56 = .ok (.iconst 1, 1) := by decide +kernel
theorem dX6_doCross_57 : decode cX6_doCross 57 = .ok (.ireturn, 1) := by decide +kernel
theorem dX6_doCross_58 : decode cX6_doCross 58 = .ok (.aload_n 0, 1) := by decide +kernel
theorem dX6_doCross_59 : decode cX6_doCross 59 = .ok (.iload_n 1, 1) := by decide +kernel
theorem dX6_doCross_60 : decode cX6_doCross 60 = .ok (.iload_n 3, 1) := by decide +kernel
theorem dX6_doCross_61 : decode cX6_doCross 61 = .ok (.iload_n 2, 1) := by decide +kernel
theorem dX6_doCross_62 : decode cX6_doCross 62 = .ok (.invokevirtual 232, 3) := by decide +kernel
theorem dX6_doCross_65 : decode cX6_doCross 65 = .ok (.invokestatic 243, 3) := by decide +kernel
theorem dX6_doCross_68 : decode cX6_doCross 68 = .ok (.aload_n 0, 1) := by decide +kernel
theorem dX6_doCross_69 : decode cX6_doCross 69 = .ok (.iload_n 1, 1) := by decide +kernel
theorem dX6_doCross_70 : decode cX6_doCross 70 = .ok (.iload_n 3, 1) := by decide +kernel
theorem dX6_doCross_71 : decode cX6_doCross 71 = .ok (.iload 4, 2) := by decide +kernel
theorem dX6_doCross_73 : decode cX6_doCross 73 = .ok (.invokevirtual 232, 3) := by decide +kernel
theorem dX6_doCross_76 : decode cX6_doCross 76 = .ok (.invokestatic 243, 3) := by decide +kernel
theorem dX6_doCross_79 : decode cX6_doCross 79 = .ok (.imul, 1) := by decide +kernel
theorem dX6_doCross_80 : decode cX6_doCross 80 = .ok (.ifCond .ge 33, 3) := by decide +kernel
theorem dX6_doCross_83 : decode cX6_doCross 83 = .ok (.aload_n 0, 1) := by decide +kernel
theorem dX6_doCross_84 : decode cX6_doCross 84 = .ok (.iload_n 2, 1) := by decide +kernel
theorem dX6_doCross_85 : decode cX6_doCross 85 = .ok (.iload 4, 2) := by decide +kernel
theorem dX6_doCross_87 : decode cX6_doCross 87 = .ok (.iload_n 1, 1) := by decide +kernel
theorem dX6_doCross_88 : decode cX6_doCross 88 = .ok (.invokevirtual 232, 3) := by decide +kernel
theorem dX6_doCross_91 : decode cX6_doCross 91 = .ok (.invokestatic 243, 3) := by decide +kernel
theorem dX6_doCross_94 : decode cX6_doCross 94 = .ok (.aload_n 0, 1) := by decide +kernel
theorem dX6_doCross_95 : decode cX6_doCross 95 = .ok (.iload_n 2, 1) := by decide +kernel
theorem dX6_doCross_96 : decode cX6_doCross 96 = .ok (.iload 4, 2) := by decide +kernel
theorem dX6_doCross_98 : decode cX6_doCross 98 = .ok (.iload_n 3, 1) := by decide +kernel
theorem dX6_doCross_99 : decode cX6_doCross 99 = .ok (.invokevirtual 232, 3) := by decide +kernel
theorem dX6_doCross_102 : decode cX6_doCross 102 = .ok (.invokestatic 243, 3) := by decide +kernel
theorem dX6_doCross_105 : decode cX6_doCross 105 = .ok (.imul, 1) := by decide +kernel
theorem dX6_doCross_106 : decode cX6_doCross 106 = .ok (.ifCond .ge 7, 3) := by decide +kernel
theorem dX6_doCross_109 : decode cX6_doCross 109 = .ok (.iconst 1, 1) := by decide +kernel
theorem dX6_doCross_110 : decode cX6_doCross 110 = .ok (.goto 4, 3) := by decide +kernel
theorem dX6_doCross_113 : decode cX6_doCross 113 = .ok (.iconst 0, 1) := by decide +kernel
theorem dX6_doCross_114 : decode cX6_doCross 114 = .ok (.ireturn, 1) := by decide +kernel
theorem dX6_areNeighbours_0 : decode cX6_areNeighbours 0 = .ok (.aload_n 0, 1) := by decide +kernel
theorem dX6_areNeighbours_1 : decode cX6_areNeighbours 1 = .ok (.iload_n 1, 1) := by decide +kernel
theorem dX6_areNeighbours_2 : decode cX6_areNeighbours 2 = .ok (.invokevirtual 220, 3) := by decide +kernel
theorem dX6_areNeighbours_5 : decode cX6_areNeighbours 5 = .ok (.iload_n 2, 1) := by decide +kernel
theorem dX6_areNeighbours_6 : decode cX6_areNeighbours 6 = .ok (.if_icmp .eq 12, 3) := by decide +kernel
theorem dX6_areNeighbours_9 : decode cX6_areNeighbours 9 = .ok (.aload_n 0, 1) := by decide +kernel
theorem dX6_areNeighbours_10 : decode cX6_areNeighbours 10 = .ok (.iload_n 2, 1) := by decide +kernel
theorem dX6_areNeighbours_11 : decode cX6_areNeighbours 11 = .ok (.invokevirtual 220, 3) := by decide +kernel
theorem dX6_areNeighbours_14 : decode cX6_areNeighbours 14 = .ok (.iload_n 1, 1) := by decide +kernel
theorem dX6_areNeighbours_15 : decode cX6_areNeighbours 15 = .ok (.if_icmp .ne 7, 3) := by decide +kernel
theorem dX6_areNeighbours_18 : decode cX6_areNeighbours 18 = .ok (.iconst 1, 1) := by decide +kernel
theorem dX6_areNeighbours_19 : decode cX6_areNeighbours 19 = .ok (.goto 4, 3) := by decide +kernel
theorem dX6_areNeighbours_22 : decode cX6_areNeighbours 22 = .ok (.iconst 0, 1) := by decide +kernel
theorem dX6_areNeighbours_23 : decode cX6_areNeighbours 23 = .ok (.ireturn, 1) := by decide +kernel
theorem dX6_cross__0 : decode cX6_cross_ 0 = .ok (.aload_n 0, 1) := by decide +kernel
theorem dX6_cross__1 : decode cX6_cross_ 1 = .ok (.iload_n 1, 1) := by decide +kernel
theorem dX6_cross__2 : decode cX6_cross_ 2 = .ok (.invokevirtual 106, 3) := by decide +kernel
theorem dX6_cross__5 : decode cX6_cross_ 5 = .ok (.ifCond .eq 16, 3) := by decide +kernel
theorem dX6_cross__8 : decode cX6_cross_ 8 = .ok (.aload_n 0, 1) := by decide +kernel
theorem dX6_cross__9 : decode cX6_cross_ 9 = .ok (.iload_n 2, 1) := by decide +kernel
theorem dX6_cross__10 : decode cX6_cross_ 10 = .ok (.invokevirtual 106, 3) := by decide +kernel
theorem dX6_cross__13 : decode cX6_cross_ 13 = .ok (.ifCond .eq 8, 3) := by decide +kernel
theorem dX6_cross__16 : decode cX6_cross_ 16 = .ok (.iload_n 1, 1) := by decide +kernel
theorem dX6_cross__17 : decode cX6_cross_ 17 = .ok (.iload_n 2, 1) := by decide +kernel
theorem dX6_cross__18 : decode cX6_cross_ 18 = .ok (.if_icmp .ne 9, 3) := by decide +kernel
theorem dX6_cross__21 : decode cX6_cross_ 21 = .ok (.aload_n 0, 1) := by decide +kernel
theorem dX6_cross__22 : decode cX6_cross_ 22 = .ok (.iconst (-1), 1) := by decide +kernel
theorem dX6_cross__23 : decode cX6_cross_ 23 = .ok (.invokevirtual 13, 3) := by decide +kernel
theorem dX6_cross__26 : decode cX6_cross_ 26 = .ok (.ireturn, 1) := by decide +kernel
theorem dX6_cross__27 : decode cX6_cross_ 27 = .ok (.aload_n 0, 1) := by decide +kernel
theorem dX6_cross__28 : decode cX6_cross_ 28 = .ok (.invokevirtual 200, 3) := by decide +kernel
theorem dX6_cross__31 : decode cX6_cross_ 31 = .ok (.ifCond .eq 12, 3) := by decide +kernel
theorem dX6_cross__34 : decode cX6_cross_ 34 = .ok (.aload_n 0, 1) := by decide +kernel
theorem dX6_cross__35 : decode cX6_cross_ 35 = .ok (.iload_n 1, 1) := by decide +kernel
theorem dX6_cross__36 : decode cX6_cross_ 36 = .ok (.iload_n 2, 1) := by decide +kernel
theorem dX6_cross__37 : decode cX6_cross_ 37 = .ok (.invokevirtual 247, 3) := by decide +kernel
theorem dX6_cross__40 : decode cX6_cross_ 40 = .ok (.ifCond .eq 10, 3) := by decide +kernel
theorem dX6_cross__43 : decode cX6_cross_ 43 = .ok (.aload_n 0, 1) := by decide +kernel
theorem dX6_cross__44 : decode cX6_cross_ 44 = .ok (.bipush (-3), 2) := by decide +kernel
theorem dX6_cross__46 : decode cX6_cross_ 46 = .ok (.invokevirtual 13, 3) := by decide +kernel
theorem dX6_cross__49 : decode cX6_cross_ 49 = .ok (.ireturn, 1) := by decide +kernel
theorem dX6_cross__50 : decode cX6_cross_ 50 = .ok (.aload_n 0, 1) := by decide +kernel
theorem dX6_cross__51 : decode cX6_cross_ 51 = .ok (.iload_n 1, 1) := by decide +kernel
theorem dX6_cross__52 : decode cX6_cross_ 52 = .ok (.iload_n 2, 1) := by decide +kernel
theorem dX6_cross__53 : decode cX6_cross_ 53 = .ok (.invokevirtual 251, 3) := by decide +kernel
theorem dX6_cross__56 : decode cX6_cross_ 56 = .ok (.ifCond .eq 7, 3) := by decide +kernel
theorem dX6_cross__59 : decode cX6_cross_ 59 = .ok (.iconst 1, 1) := by decide +kernel
theorem dX6_cross__60 : decode cX6_cross_ 60 = .ok (.goto 4, 3) := by decide +kernel
theorem dX6_cross__63 : decode cX6_cross_ 63 = .ok (.iconst 0, 1) := by decide +kernel
theorem dX6_cross__64 : decode cX6_cross_ 64 = .ok (.ireturn, 1) := by decide +kernel
theorem dX6_crossings_0 : decode cX6_crossings 0 = .ok (.iconst 0, 1) := by decide +kernel
theorem dX6_crossings_1 : decode cX6_crossings 1 = .ok (.istore_n 1, 1) := by decide +kernel
theorem dX6_crossings_2 : decode cX6_crossings 2 = .ok (.iconst 0, 1) := by decide +kernel
theorem dX6_crossings_3 : decode cX6_crossings 3 = .ok (.istore_n 2, 1) := by decide +kernel
theorem dX6_crossings_4 : decode cX6_crossings 4 = .ok (.iload_n 2, 1) := by decide +kernel
theorem dX6_crossings_5 : decode cX6_crossings 5 = .ok (.aload_n 0, 1) := by decide +kernel
theorem dX6_crossings_6 : decode cX6_crossings 6 = .ok (.invokevirtual 63, 3) := by decide +kernel
theorem dX6_crossings_9 : decode cX6_crossings 9 = .ok (.if_icmp .ge 53, 3) := by decide +kernel
theorem dX6_crossings_12 : decode cX6_crossings 12 = .ok (.iload_n 2, 1) := by decide +kernel
theorem dX6_crossings_13 : decode cX6_crossings 13 = .ok (.iconst 1, 1) := by decide +kernel
theorem dX6_crossings_14 : decode cX6_crossings 14 = .ok (.iadd, 1) := by decide +kernel
theorem dX6_crossings_15 : decode cX6_crossings 15 = .ok (.istore_n 3, 1) := by decide +kernel
theorem dX6_crossings_16 : decode cX6_crossings 16 = .ok (.iload_n 3, 1) := by decide +kernel
theorem dX6_crossings_17 : decode cX6_crossings 17 = .ok (.aload_n 0, 1) := by decide +kernel
theorem dX6_crossings_18 : decode cX6_crossings 18 = .ok (.invokevirtual 63, 3) := by decide +kernel
theorem dX6_crossings_21 : decode cX6_crossings 21 = .ok (.if_icmp .ge 35, 3) := by decide +kernel
theorem dX6_crossings_24 : decode cX6_crossings 24 = .ok (.iload_n 1, 1) := by decide +kernel
theorem dX6_crossings_25 : decode cX6_crossings 25 = .ok (.aload_n 0, 1) := by decide +kernel
theorem dX6_crossings_26 : decode cX6_crossings 26 = .ok (.iload_n 2, 1) := by decide +kernel
theorem dX6_crossings_27 : decode cX6_crossings 27 = .ok (.iload_n 3, 1) := by decide +kernel
theorem dX6_crossings_28 : decode cX6_crossings 28 = .ok (.invokevirtual 247, 3) := by decide +kernel
theorem dX6_crossings_31 : decode cX6_crossings 31 = .ok (.ifCond .ne 16, 3) := by decide +kernel
theorem dX6_crossings_34 : decode cX6_crossings 34 = .ok (.aload_n 0, 1) := by decide +kernel
theorem dX6_crossings_35 : decode cX6_crossings 35 = .ok (.iload_n 2, 1) := by decide +kernel
theorem dX6_crossings_36 : decode cX6_crossings 36 = .ok (.iload_n 3, 1) := by decide +kernel
theorem dX6_crossings_37 : decode cX6_crossings 37 = .ok (.invokevirtual 251, 3) := by decide +kernel
theorem dX6_crossings_40 : decode cX6_crossings 40 = .ok (.ifCond .eq 7, 3) := by decide +kernel
theorem dX6_crossings_43 : decode cX6_crossings 43 = .ok (.iconst 1, 1) := by decide +kernel
theorem dX6_crossings_44 : decode cX6_crossings 44 = .ok (.goto 4, 3) := by decide +kernel
theorem dX6_crossings_47 : decode cX6_crossings 47 = .ok (.iconst 0, 1) := by decide +kernel
theorem dX6_crossings_48 : decode cX6_crossings 48 = .ok (.iadd, 1) := by decide +kernel
theorem dX6_crossings_49 : decode cX6_crossings 49 = .ok (.istore_n 1, 1) := by decide +kernel
theorem dX6_crossings_50 : decode cX6_crossings 50 = .ok (.iinc 3 1, 3) := by decide +kernel
theorem dX6_crossings_53 : decode cX6_crossings 53 = .ok (.goto (-37), 3) := by decide +kernel
theorem dX6_crossings_56 : decode cX6_crossings 56 = .ok (.iinc 2 1, 3) := by decide +kernel
theorem dX6_crossings_59 : decode cX6_crossings 59 = .ok (.goto (-55), 3) := by decide +kernel
theorem dX6_crossings_62 : decode cX6_crossings 62 = .ok (.iload_n 1, 1) := by decide +kernel
theorem dX6_crossings_63 : decode cX6_crossings 63 = .ok (.ireturn, 1) := by decide +kernel
theorem dX6_crosses_0 : decode cX6_crosses 0 = .ok (.aload_n 0, 1) := by decide +kernel
theorem dX6_crosses_1 : decode cX6_crosses 1 = .ok (.invokevirtual 200, 3) := by decide +kernel
theorem dX6_crosses_4 : decode cX6_crosses 4 = .ok (.ifCond .eq 10, 3) := by decide +kernel
theorem dX6_crosses_7 : decode cX6_crosses 7 = .ok (.aload_n 0, 1) := by decide +kernel
theorem dX6_crosses_8 : decode cX6_crosses 8 = .ok (.invokevirtual 254, 3) := by decide +kernel
theorem dX6_crosses_11 : decode cX6_crosses 11 = .ok (.goto 9, 3) := by decide +kernel
theorem dX6_crosses_14 : decode cX6_crosses 14 = .ok (.aload_n 0, 1) := by decide +kernel
theorem dX6_crosses_15 : decode cX6_crosses 15 = .ok (.bipush (-3), 2) := by decide +kernel
theorem dX6_crosses_17 : decode cX6_crosses 17 = .ok (.invokevirtual 13, 3) := by decide +kernel
theorem dX6_crosses_20 : decode cX6_crosses 20 = .ok (.ireturn, 1) := by decide +kernel
theorem dX6_isSamePoint_0 : decode cX6_isSamePoint 0 = .ok (.aload_n 0, 1) := by decide +kernel
theorem dX6_isSamePoint_1 : decode cX6_isSamePoint 1 = .ok (.iload_n 1, 1) := by decide +kernel
theorem dX6_isSamePoint_2 : decode cX6_isSamePoint 2 = .ok (.invokevirtual 208, 3) := by decide +kernel
theorem dX6_isSamePoint_5 : decode cX6_isSamePoint 5 = .ok (.aload_n 0, 1) := by decide +kernel
theorem dX6_isSamePoint_6 : decode cX6_isSamePoint 6 = .ok (.iload_n 2, 1) := by decide +kernel
theorem dX6_isSamePoint_7 : decode cX6_isSamePoint 7 = .ok (.invokevirtual 208, 3) := by decide +kernel
theorem dX6_isSamePoint_10 : decode cX6_isSamePoint 10 = .ok (.lcmp, 1) := by decide +kernel
theorem dX6_isSamePoint_11 : decode cX6_isSamePoint 11 = .ok (.ifCond .ne 21, 3) := by decide +kernel
theorem dX6_isSamePoint_14 : decode cX6_isSamePoint 14 = .ok (.aload_n 0, 1) := by decide +kernel
theorem dX6_isSamePoint_15 : decode cX6_isSamePoint 15 = .ok (.iload_n 1, 1) := by decide +kernel
theorem dX6_isSamePoint_16 : decode cX6_isSamePoint 16 = .ok (.invokevirtual 211, 3) := by decide +kernel
theorem dX6_isSamePoint_19 : decode cX6_isSamePoint 19 = .ok (.aload_n 0, 1) := by decide +kernel
theorem dX6_isSamePoint_20 : decode cX6_isSamePoint 20 = .ok (.iload_n 2, 1) := by decide +kernel
theorem dX6_isSamePoint_21 : decode cX6_isSamePoint 21 = .ok (.invokevirtual 211, 3) := by decide +kernel
theorem dX6_isSamePoint_24 : decode cX6_isSamePoint 24 = .ok (.lcmp, 1) := by decide +kernel
theorem dX6_isSamePoint_25 : decode cX6_isSamePoint 25 = .ok (.ifCond .ne 7, 3) := by decide +kernel
theorem dX6_isSamePoint_28 : decode cX6_isSamePoint 28 = .ok (.iconst 1, 1) := by decide +kernel
theorem dX6_isSamePoint_29 : decode cX6_isSamePoint 29 = .ok (.goto 4, 3) := by decide +kernel
theorem dX6_isSamePoint_32 : decode cX6_isSamePoint 32 = .ok (.iconst 0, 1) := by decide +kernel
theorem dX6_isSamePoint_33 : decode cX6_isSamePoint 33 = .ok (.ireturn, 1) := by decide +kernel
theorem dX6_isFirstThere_0 : decode cX6_isFirstThere 0 = .ok (.iconst 0, 1) := by decide +kernel
theorem dX6_isFirstThere_1 : decode cX6_isFirstThere 1 = .ok (.istore_n 2, 1) := by decide +kernel
theorem dX6_isFirstThere_2 : decode cX6_isFirstThere 2 = .ok (.iload_n 2, 1) := by decide +kernel
theorem dX6_isFirstThere_3 : decode cX6_isFirstThere 3 = .ok (.iload_n 1, 1) := by decide +kernel
theorem dX6_isFirstThere_4 : decode cX6_isFirstThere 4 = .ok (.if_icmp .ge 20, 3) := by decide +kernel
theorem dX6_isFirstThere_7 : decode cX6_isFirstThere 7 = .ok (.aload_n 0, 1) := by decide +kernel
theorem dX6_isFirstThere_8 : decode cX6_isFirstThere 8 = .ok (.iload_n 2, 1) := by decide +kernel
theorem dX6_isFirstThere_9 : decode cX6_isFirstThere 9 = .ok (.iload_n 1, 1) := by decide +kernel
theorem dX6_isFirstThere_10 : decode cX6_isFirstThere 10 = .ok (.invokevirtual 257, 3) := by decide +kernel
theorem dX6_isFirstThere_13 : decode cX6_isFirstThere 13 = .ok (.ifCond .eq 5, 3) := by decide +kernel
theorem dX6_isFirstThere_16 : decode cX6_isFirstThere 16 = .ok (.iconst 0, 1) := by decide +kernel
theorem dX6_isFirstThere_17 : decode cX6_isFirstThere 17 = .ok (.ireturn, 1) := by decide +kernel
theorem dX6_isFirstThere_18 : decode cX6_isFirstThere 18 = .ok (.iinc 2 1, 3) := by decide +kernel
theorem dX6_isFirstThere_21 : decode cX6_isFirstThere 21 = .ok (.goto (-19), 3) := by decide +kernel
theorem dX6_isFirstThere_24 : decode cX6_isFirstThere 24 = .ok (.iconst 1, 1) := by decide +kernel
theorem dX6_isFirstThere_25 : decode cX6_isFirstThere 25 = .ok (.ireturn, 1) := by decide +kernel
theorem dX6_isWithin_0 : decode cX6_isWithin 0 = .ok (.aload_n 0, 1) := by decide +kernel
theorem dX6_isWithin_1 : decode cX6_isWithin 1 = .ok (.iload_n 2, 1) := by decide +kernel
theorem dX6_isWithin_2 : decode cX6_isWithin 2 = .ok (.iload_n 3, 1) := by decide +kernel
theorem dX6_isWithin_3 : decode cX6_isWithin 3 = .ok (.iload 4, 2) := by decide +kernel
theorem dX6_isWithin_5 : decode cX6_isWithin 5 = .ok (.invokevirtual 232, 3) := by decide +kernel
theorem dX6_isWithin_8 : decode cX6_isWithin 8 = .ok (.lconst 0, 1) := by decide +kernel
theorem dX6_isWithin_9 : decode cX6_isWithin 9 = .ok (.lcmp, 1) := by decide +kernel
theorem dX6_isWithin_10 : decode cX6_isWithin 10 = .ok (.ifCond .ne 5, 3) := by decide +kernel
theorem dX6_isWithin_13 : decode cX6_isWithin 13 = .ok (.iconst 0, 1) := by decide +kernel
theorem dX6_isWithin_14 : decode cX6_isWithin 14 = .ok (.ireturn, 1) := by decide +kernel
theorem dX6_isWithin_15 : decode cX6_isWithin 15 = .ok (.aload_n 0, 1) := by decide +kernel
theorem dX6_isWithin_16 : decode cX6_isWithin 16 = .ok (.iload_n 2, 1) := by decide +kernel
theorem dX6_isWithin_17 : decode cX6_isWithin 17 = .ok (.iload_n 3, 1) := by decide +kernel
theorem dX6_isWithin_18 : decode cX6_isWithin 18 = .ok (.iload_n 1, 1) := by decide +kernel
theorem dX6_isWithin_19 : decode cX6_isWithin 19 = .ok (.invokevirtual 232, 3) := by decide +kernel
theorem dX6_isWithin_22 : decode cX6_isWithin 22 = .ok (.invokestatic 243, 3) := by decide +kernel
theorem dX6_isWithin_25 : decode cX6_isWithin 25 = .ok (.istore 5, 2) := by decide +kernel
theorem dX6_isWithin_27 : decode cX6_isWithin 27 = .ok (.aload_n 0, 1) := by decide +kernel
theorem dX6_isWithin_28 : decode cX6_isWithin 28 = .ok (.iload_n 3, 1) := by decide +kernel
theorem dX6_isWithin_29 : decode cX6_isWithin 29 = .ok (.iload 4, 2) := by decide +kernel
theorem dX6_isWithin_31 : decode cX6_isWithin 31 = .ok (.iload_n 1, 1) := by decide +kernel
theorem dX6_isWithin_32 : decode cX6_isWithin 32 = .ok (.invokevirtual 232, 3) := by decide +kernel
theorem dX6_isWithin_35 : decode cX6_isWithin 35 = .ok (.invokestatic 243, 3) := by decide +kernel
theorem dX6_isWithin_38 : decode cX6_isWithin 38 = .ok (.istore 6, 2) := by decide +kernel
theorem dX6_isWithin_40 : decode cX6_isWithin 40 = .ok (.aload_n 0, 1) := by decide +kernel
theorem dX6_isWithin_41 : decode cX6_isWithin 41 = .ok (.iload 4, 2) := by decide +kernel
theorem dX6_isWithin_43 : decode cX6_isWithin 43 = .ok (.iload_n 2, 1) := by decide +kernel
theorem dX6_isWithin_44 : decode cX6_isWithin 44 = .ok (.iload_n 1, 1) := by decide +kernel
theorem dX6_isWithin_45 : decode cX6_isWithin 45 = .ok (.invokevirtual 232, 3) := by decide +kernel
theorem dX6_isWithin_48 : decode cX6_isWithin 48 = .ok (.invokestatic 243, 3) := by decide +kernel
theorem dX6_isWithin_51 : decode cX6_isWithin 51 = .ok (.istore 7, 2) := by decide +kernel
theorem dX6_isWithin_53 : decode cX6_isWithin 53 = .ok (.iload 5, 2) := by decide +kernel
theorem dX6_isWithin_55 : decode cX6_isWithin 55 = .ok (.ifCond .lt 13, 3) := by decide +kernel
theorem dX6_isWithin_58 : decode cX6_isWithin 58 = .ok (.iload 6, 2) := by decide +kernel
theorem dX6_isWithin_60 : decode cX6_isWithin 60 = .ok (.ifCond .lt 8, 3) := by decide +kernel
theorem dX6_isWithin_63 : decode cX6_isWithin 63 = .ok (.iload 7, 2) := by decide +kernel
theorem dX6_isWithin_65 : decode cX6_isWithin 65 = .ok (.ifCond .ge 18, 3) := by decide +kernel
theorem dX6_isWithin_68 : decode cX6_isWithin 68 = .ok (.iload 5, 2) := by decide +kernel
theorem dX6_isWithin_70 : decode cX6_isWithin 70 = .ok (.ifCond .gt 17, 3) := by decide +kernel
theorem dX6_isWithin_73 : decode cX6_isWithin 73 = .ok (.iload 6, 2) := by decide +kernel
theorem dX6_isWithin_75 : decode cX6_isWithin 75 = .ok (.ifCond .gt 12, 3) := by decide +kernel
theorem dX6_isWithin_78 : decode cX6_isWithin 78 = .ok (.iload 7, 2) := by decide +kernel
theorem dX6_isWithin_80 : decode cX6_isWithin 80 = .ok (.ifCond .gt 7, 3) := by decide +kernel
theorem dX6_isWithin_83 : decode cX6_isWithin 83 = .ok (.iconst 1, 1) := by decide +kernel
theorem dX6_isWithin_84 : decode cX6_isWithin 84 = .ok (.goto 4, 3) := by decide +kernel
theorem dX6_isWithin_87 : decode cX6_isWithin 87 = .ok (.iconst 0, 1) := by decide +kernel
theorem dX6_isWithin_88 : decode cX6_isWithin 88 = .ok (.ireturn, 1) := by decide +kernel
theorem dX6_isCovered_0 : decode cX6_isCovered 0 = .ok (.iconst 0, 1) := by decide +kernel
theorem dX6_isCovered_1 : decode cX6_isCovered 1 = .ok (.istore_n 2, 1) := by decide +kernel
theorem dX6_isCovered_2 : decode cX6_isCovered 2 = .ok (.iload_n 2, 1) := by decide +kernel
theorem dX6_isCovered_3 : decode cX6_isCovered 3 = .ok (.aload_n 0, 1) := by decide +kernel
theorem dX6_isCovered_4 : decode cX6_isCovered 4 = .ok (.invokevirtual 63, 3) := by decide +kernel
theorem dX6_isCovered_7 : decode cX6_isCovered 7 = .ok (.if_icmp .ge 94, 3) := by decide +kernel
theorem dX6_isCovered_10 : decode cX6_isCovered 10 = .ok (.iconst 0, 1) := by decide +kernel
theorem dX6_isCovered_11 : decode cX6_isCovered 11 = .ok (.istore_n 3, 1) := by decide +kernel
theorem dX6_isCovered_12 : decode cX6_isCovered 12 = .ok (.iload_n 3, 1) := by decide +kernel
theorem dX6_isCovered_13 : decode cX6_isCovered 13 = .ok (.iload_n 2, 1) := by decide +kernel
theorem dX6_isCovered_14 : decode cX6_isCovered 14 = .ok (.if_icmp .ge 81, 3) := by decide +kernel
theorem dX6_isCovered_17 : decode cX6_isCovered 17 = .ok (.aload_n 0, 1) := by decide +kernel
theorem dX6_isCovered_18 : decode cX6_isCovered 18 = .ok (.iload_n 2, 1) := by decide +kernel
theorem dX6_isCovered_19 : decode cX6_isCovered 19 = .ok (.iload_n 1, 1) := by decide +kernel
theorem dX6_isCovered_20 : decode cX6_isCovered 20 = .ok (.invokevirtual 257, 3) := by decide +kernel
theorem dX6_isCovered_23 : decode cX6_isCovered 23 = .ok (.ifCond .ne 66, 3) := by decide +kernel
theorem dX6_isCovered_26 : decode cX6_isCovered 26 = .ok (.aload_n 0, 1) := by decide +kernel
theorem dX6_isCovered_27 : decode cX6_isCovered 27 = .ok (.iload_n 3, 1) := by decide +kernel
theorem dX6_isCovered_28 : decode cX6_isCovered 28 = .ok (.iload_n 1, 1) := by decide +kernel
theorem dX6_isCovered_29 : decode cX6_isCovered 29 = .ok (.invokevirtual 257, 3) := by decide +kernel
theorem dX6_isCovered_32 : decode cX6_isCovered 32 = .ok (.ifCond .eq 6, 3) := by decide +kernel
theorem dX6_isCovered_35 : decode cX6_isCovered 35 = .ok (.goto 54, 3) := by decide +kernel
theorem dX6_isCovered_38 : decode cX6_isCovered 38 = .ok (.aload_n 0, 1) := by decide +kernel
theorem dX6_isCovered_39 : decode cX6_isCovered 39 = .ok (.iload_n 1, 1) := by decide +kernel
theorem dX6_isCovered_40 : decode cX6_isCovered 40 = .ok (.iload_n 2, 1) := by decide +kernel
theorem dX6_isCovered_41 : decode cX6_isCovered 41 = .ok (.iload_n 3, 1) := by decide +kernel
theorem dX6_isCovered_42 : decode cX6_isCovered 42 = .ok (.invokevirtual 239, 3) := by decide +kernel
theorem dX6_isCovered_45 : decode cX6_isCovered 45 = .ok (.ifCond .eq 5, 3) := by decide +kernel
theorem dX6_isCovered_48 : decode cX6_isCovered 48 = .ok (.iconst 1, 1) := by decide +kernel
theorem dX6_isCovered_49 : decode cX6_isCovered 49 = .ok (.ireturn, 1) := by decide +kernel
theorem dX6_isCovered_50 : decode cX6_isCovered 50 = .ok (.iconst 0, 1) := by decide +kernel
theorem dX6_isCovered_51 : decode cX6_isCovered 51 = .ok (.istore 4, 2) := by decide +kernel
theorem dX6_isCovered_53 : decode cX6_isCovered 53 = .ok (.iload 4, 2) := by decide +kernel
theorem dX6_isCovered_55 : decode cX6_isCovered 55 = .ok (.iload_n 3, 1) := by decide +kernel
theorem dX6_isCovered_56 : decode cX6_isCovered 56 = .ok (.if_icmp .ge 33, 3) := by decide +kernel
theorem dX6_isCovered_59 : decode cX6_isCovered 59 = .ok (.aload_n 0, 1) := by decide +kernel
theorem dX6_isCovered_60 : decode cX6_isCovered 60 = .ok (.iload 4, 2) := by decide +kernel
theorem dX6_isCovered_62 : decode cX6_isCovered 62 = .ok (.iload_n 1, 1) := by decide +kernel
theorem dX6_isCovered_63 : decode cX6_isCovered 63 = .ok (.invokevirtual 257, 3) := by decide +kernel
theorem dX6_isCovered_66 : decode cX6_isCovered 66 = .ok (.ifCond .ne 17, 3) := by decide +kernel
theorem dX6_isCovered_69 : decode cX6_isCovered 69 = .ok (.aload_n 0, 1) := by decide +kernel
theorem dX6_isCovered_70 : decode cX6_isCovered 70 = .ok (.iload_n 1, 1) := by decide +kernel
theorem dX6_isCovered_71 : decode cX6_isCovered 71 = .ok (.iload_n 2, 1) := by decide +kernel
theorem dX6_isCovered_72 : decode cX6_isCovered 72 = .ok (.iload_n 3, 1) := by decide +kernel
theorem dX6_isCovered_73 : decode cX6_isCovered 73 = .ok (.iload 4, 2) := by decide +kernel
theorem dX6_isCovered_75 : decode cX6_isCovered 75 = .ok (.invokevirtual 260, 3) := by decide +kernel
theorem dX6_isCovered_78 : decode cX6_isCovered 78 = .ok (.ifCond .eq 5, 3) := by decide +kernel
theorem dX6_isCovered_81 : decode cX6_isCovered 81 = .ok (.iconst 1, 1) := by decide +kernel
theorem dX6_isCovered_82 : decode cX6_isCovered 82 = .ok (.ireturn, 1) := by decide +kernel
theorem dX6_isCovered_83 : decode cX6_isCovered 83 = .ok (.iinc 4 1, 3) := by decide +kernel
theorem dX6_isCovered_86 : decode cX6_isCovered 86 = .ok (.goto (-33), 3) := by decide +kernel
theorem dX6_isCovered_89 : decode cX6_isCovered 89 = .ok (.iinc 3 1, 3) := by decide +kernel
theorem dX6_isCovered_92 : decode cX6_isCovered 92 = .ok (.goto (-80), 3) := by decide +kernel
theorem dX6_isCovered_95 : decode cX6_isCovered 95 = .ok (.iinc 2 1, 3) := by decide +kernel
theorem dX6_isCovered_98 : decode cX6_isCovered 98 = .ok (.goto (-96), 3) := by decide +kernel
theorem dX6_isCovered_101 : decode cX6_isCovered 101 = .ok (.iconst 0, 1) := by decide +kernel
theorem dX6_isCovered_102 : decode cX6_isCovered 102 = .ok (.ireturn, 1) := by decide +kernel
theorem dX6_outlineBits_0 : decode cX6_outlineBits 0 = .ok (.iconst 0, 1) := by decide +kernel
theorem dX6_outlineBits_1 : decode cX6_outlineBits 1 = .ok (.istore_n 1, 1) := by decide +kernel
theorem dX6_outlineBits_2 : decode cX6_outlineBits 2 = .ok (.iconst 0, 1) := by decide +kernel
theorem dX6_outlineBits_3 : decode cX6_outlineBits 3 = .ok (.istore_n 2, 1) := by decide +kernel
theorem dX6_outlineBits_4 : decode cX6_outlineBits 4 = .ok (.iload_n 2, 1) := by decide +kernel
theorem dX6_outlineBits_5 : decode cX6_outlineBits 5 = .ok (.aload_n 0, 1) := by decide +kernel
theorem dX6_outlineBits_6 : decode cX6_outlineBits 6 = .ok (.invokevirtual 63, 3) := by decide +kernel
theorem dX6_outlineBits_9 : decode cX6_outlineBits 9 = .ok (.if_icmp .ge 35, 3) := by decide +kernel
theorem dX6_outlineBits_12 : decode cX6_outlineBits 12 = .ok (.iload_n 1, 1) := by decide +kernel
theorem dX6_outlineBits_13 : decode cX6_outlineBits 13 = .ok (.aload_n 0, 1) := by decide +kernel
theorem dX6_outlineBits_14 : decode cX6_outlineBits 14 = .ok (.iload_n 2, 1) := by decide +kernel
theorem dX6_outlineBits_15 : decode cX6_outlineBits 15 = .ok (.invokevirtual 264, 3) := by decide +kernel
theorem dX6_outlineBits_18 : decode cX6_outlineBits 18 = .ok (.ifCond .eq 17, 3) := by decide +kernel
theorem dX6_outlineBits_21 : decode cX6_outlineBits 21 = .ok (.aload_n 0, 1) := by decide +kernel
theorem dX6_outlineBits_22 : decode cX6_outlineBits 22 = .ok (.iload_n 2, 1) := by decide +kernel
theorem dX6_outlineBits_23 : decode cX6_outlineBits 23 = .ok (.invokevirtual 267, 3) := by decide +kernel
theorem dX6_outlineBits_26 : decode cX6_outlineBits 26 = .ok (.ifCond .ne 9, 3) := by decide +kernel
theorem dX6_outlineBits_29 : decode cX6_outlineBits 29 = .ok (.iconst 1, 1) := by decide +kernel
theorem dX6_outlineBits_30 : decode cX6_outlineBits 30 = .ok (.iload_n 2, 1) := by decide +kernel
theorem dX6_outlineBits_31 : decode cX6_outlineBits 31 = .ok (.ishl, 1) := by decide +kernel
theorem dX6_outlineBits_32 : decode cX6_outlineBits 32 = .ok (.goto 4, 3) := by decide +kernel
theorem dX6_outlineBits_35 : decode cX6_outlineBits 35 = .ok (.iconst 0, 1) := by decide +kernel
theorem dX6_outlineBits_36 : decode cX6_outlineBits 36 = .ok (.ior, 1) := by decide +kernel
theorem dX6_outlineBits_37 : decode cX6_outlineBits 37 = .ok (.istore_n 1, 1) := by decide +kernel
theorem dX6_outlineBits_38 : decode cX6_outlineBits 38 = .ok (.iinc 2 1, 3) := by decide +kernel
theorem dX6_outlineBits_41 : decode cX6_outlineBits 41 = .ok (.goto (-37), 3) := by decide +kernel
theorem dX6_outlineBits_44 : decode cX6_outlineBits 44 = .ok (.iload_n 1, 1) := by decide +kernel
theorem dX6_outlineBits_45 : decode cX6_outlineBits 45 = .ok (.ireturn, 1) := by decide +kernel
theorem dX6_bits_0 : decode cX6_bits 0 = .ok (.iconst 0, 1) := by decide +kernel
theorem dX6_bits_1 : decode cX6_bits 1 = .ok (.istore_n 1, 1) := by decide +kernel
theorem dX6_bits_2 : decode cX6_bits 2 = .ok (.iload_n 0, 1) := by decide +kernel
theorem dX6_bits_3 : decode cX6_bits 3 = .ok (.istore_n 2, 1) := by decide +kernel
theorem dX6_bits_4 : decode cX6_bits 4 = .ok (.iload_n 2, 1) := by decide +kernel
theorem dX6_bits_5 : decode cX6_bits 5 = .ok (.ifCond .eq 15, 3) := by decide +kernel
theorem dX6_bits_8 : decode cX6_bits 8 = .ok (.iinc 1 1, 3) := by decide +kernel
theorem dX6_bits_11 : decode cX6_bits 11 = .ok (.iload_n 2, 1) := by decide +kernel
theorem dX6_bits_12 : decode cX6_bits 12 = .ok (.iload_n 2, 1) := by decide +kernel
theorem dX6_bits_13 : decode cX6_bits 13 = .ok (.iconst 1, 1) := by decide +kernel
theorem dX6_bits_14 : decode cX6_bits 14 = .ok (.isub, 1) := by decide +kernel
theorem dX6_bits_15 : decode cX6_bits 15 = .ok (.iand, 1) := by decide +kernel
theorem dX6_bits_16 : decode cX6_bits 16 = .ok (.istore_n 2, 1) := by decide +kernel
theorem dX6_bits_17 : decode cX6_bits 17 = .ok (.goto (-13), 3) := by decide +kernel
theorem dX6_bits_20 : decode cX6_bits 20 = .ok (.iload_n 1, 1) := by decide +kernel
theorem dX6_bits_21 : decode cX6_bits 21 = .ok (.ireturn, 1) := by decide +kernel
theorem dX6_outline_0 : decode cX6_outline 0 = .ok (.iload_n 1, 1) := by decide +kernel
theorem dX6_outline_1 : decode cX6_outline 1 = .ok (.i2l, 1) := by decide +kernel
theorem dX6_outline_2 : decode cX6_outline 2 = .ok (.lconst 0, 1) := by decide +kernel
theorem dX6_outline_3 : decode cX6_outline 3 = .ok (.lconst 1, 1) := by decide +kernel
theorem dX6_outline_4 : decode cX6_outline 4 = .ok (.invokestatic 67, 3) := by decide +kernel
theorem dX6_outline_7 : decode cX6_outline 7 = .ok (.ifCond .ne 10, 3) := by decide +kernel
theorem dX6_outline_10 : decode cX6_outline 10 = .ok (.aload_n 0, 1) := by decide +kernel
theorem dX6_outline_11 : decode cX6_outline 11 = .ok (.bipush (-2), 2) := by decide +kernel
theorem dX6_outline_13 : decode cX6_outline 13 = .ok (.invokevirtual 13, 3) := by decide +kernel
theorem dX6_outline_16 : decode cX6_outline 16 = .ok (.ireturn, 1) := by decide +kernel
theorem dX6_outline_17 : decode cX6_outline 17 = .ok (.aload_n 0, 1) := by decide +kernel
theorem dX6_outline_18 : decode cX6_outline 18 = .ok (.invokevirtual 200, 3) := by decide +kernel
theorem dX6_outline_21 : decode cX6_outline 21 = .ok (.ifCond .ne 10, 3) := by decide +kernel
theorem dX6_outline_24 : decode cX6_outline 24 = .ok (.aload_n 0, 1) := by decide +kernel
theorem dX6_outline_25 : decode cX6_outline 25 = .ok (.bipush (-3), 2) := by decide +kernel
theorem dX6_outline_27 : decode cX6_outline 27 = .ok (.invokevirtual 13, 3) := by decide +kernel
theorem dX6_outline_30 : decode cX6_outline 30 = .ok (.ireturn, 1) := by decide +kernel
theorem dX6_outline_31 : decode cX6_outline 31 = .ok (.iload_n 1, 1) := by decide +kernel
theorem dX6_outline_32 : decode cX6_outline 32 = .ok (.ifCond .ne 10, 3) := by decide +kernel
theorem dX6_outline_35 : decode cX6_outline 35 = .ok (.aload_n 0, 1) := by decide +kernel
theorem dX6_outline_36 : decode cX6_outline 36 = .ok (.invokevirtual 270, 3) := by decide +kernel
theorem dX6_outline_39 : decode cX6_outline 39 = .ok (.goto 10, 3) := by decide +kernel
theorem dX6_outline_42 : decode cX6_outline 42 = .ok (.aload_n 0, 1) := by decide +kernel
theorem dX6_outline_43 : decode cX6_outline 43 = .ok (.invokevirtual 270, 3) := by decide +kernel
theorem dX6_outline_46 : decode cX6_outline 46 = .ok (.invokestatic 273, 3) := by decide +kernel
theorem dX6_outline_49 : decode cX6_outline 49 = .ok (.ireturn, 1) := by decide +kernel
theorem dX6_nextRound_0 : decode cX6_nextRound 0 = .ok (.bipush (-9), 2) := by decide +kernel
theorem dX6_nextRound_2 : decode cX6_nextRound 2 = .ok (.istore_n 3, 1) := by decide +kernel
theorem dX6_nextRound_3 : decode cX6_nextRound 3 = .ok (.iconst 0, 1) := by decide +kernel
theorem dX6_nextRound_4 : decode cX6_nextRound 4 = .ok (.istore 4, 2) := by decide +kernel
theorem dX6_nextRound_6 : decode cX6_nextRound 6 = .ok (.iload 4, 2) := by decide +kernel
theorem dX6_nextRound_8 : decode cX6_nextRound 8 = .ok (.aload_n 0, 1) := by decide +kernel
theorem dX6_nextRound_9 : decode cX6_nextRound 9 = .ok (.invokevirtual 63, 3) := by decide +kernel
theorem dX6_nextRound_12 : decode cX6_nextRound 12 = .ok (.if_icmp .ge 49, 3) := by decide +kernel
theorem dX6_nextRound_15 : decode cX6_nextRound 15 = .ok (.iload 4, 2) := by decide +kernel
theorem dX6_nextRound_17 : decode cX6_nextRound 17 = .ok (.iload_n 2, 1) := by decide +kernel
theorem dX6_nextRound_18 : decode cX6_nextRound 18 = .ok (.if_icmp .eq 37, 3) := by decide +kernel
theorem dX6_nextRound_21 : decode cX6_nextRound 21 = .ok (.iload_n 1, 1) := by decide +kernel
theorem dX6_nextRound_22 : decode cX6_nextRound 22 = .ok (.iload 4, 2) := by decide +kernel
theorem dX6_nextRound_24 : decode cX6_nextRound 24 = .ok (.ishr, 1) := by decide +kernel
theorem dX6_nextRound_25 : decode cX6_nextRound 25 = .ok (.iconst 1, 1) := by decide +kernel
theorem dX6_nextRound_26 : decode cX6_nextRound 26 = .ok (.iand, 1) := by decide +kernel
theorem dX6_nextRound_27 : decode cX6_nextRound 27 = .ok (.ifCond .ne 6, 3) := by decide +kernel
theorem dX6_nextRound_30 : decode cX6_nextRound 30 = .ok (.goto 25, 3) := by decide +kernel
theorem dX6_nextRound_33 : decode cX6_nextRound 33 = .ok (.iload_n 3, 1) := by decide +kernel
theorem dX6_nextRound_34 : decode cX6_nextRound 34 = .ok (.bipush (-9), 2) := by decide +kernel
theorem dX6_nextRound_36 : decode cX6_nextRound 36 = .ok (.if_icmp .eq 16, 3) := by decide +kernel
theorem dX6_nextRound_39 : decode cX6_nextRound 39 = .ok (.aload_n 0, 1) := by decide +kernel
theorem dX6_nextRound_40 : decode cX6_nextRound 40 = .ok (.iload_n 2, 1) := by decide +kernel
theorem dX6_nextRound_41 : decode cX6_nextRound 41 = .ok (.iload_n 3, 1) := by decide +kernel
theorem dX6_nextRound_42 : decode cX6_nextRound 42 = .ok (.iload 4, 2) := by decide +kernel
theorem dX6_nextRound_44 : decode cX6_nextRound 44 = .ok (.invokevirtual 232, 3) := by decide +kernel
theorem dX6_nextRound_47 : decode cX6_nextRound 47 = .ok (.lconst 0, 1) := by decide +kernel
theorem dX6_nextRound_48 : decode cX6_nextRound 48 = .ok (.lcmp, 1) := by decide +kernel
theorem dX6_nextRound_49 : decode cX6_nextRound 49 = .ok (.ifCond .ge 6, 3) := by decide +kernel
theorem dX6_nextRound_52 : decode cX6_nextRound 52 = .ok (.iload 4, 2) := by decide +kernel
theorem dX6_nextRound_54 : decode cX6_nextRound 54 = .ok (.istore_n 3, 1) := by decide +kernel
theorem dX6_nextRound_55 : decode cX6_nextRound 55 = .ok (.iinc 4 1, 3) := by decide +kernel
theorem dX6_nextRound_58 : decode cX6_nextRound 58 = .ok (.goto (-52), 3) := by decide +kernel
theorem dX6_nextRound_61 : decode cX6_nextRound 61 = .ok (.iload_n 3, 1) := by decide +kernel
theorem dX6_nextRound_62 : decode cX6_nextRound 62 = .ok (.ireturn, 1) := by decide +kernel
theorem dX6_hull_0 : decode cX6_hull 0 = .ok (.iload_n 1, 1) := by decide +kernel
theorem dX6_hull_1 : decode cX6_hull 1 = .ok (.invokestatic 197, 3) := by decide +kernel
theorem dX6_hull_4 : decode cX6_hull 4 = .ok (.ifCond .ne 10, 3) := by decide +kernel
theorem dX6_hull_7 : decode cX6_hull 7 = .ok (.aload_n 0, 1) := by decide +kernel
theorem dX6_hull_8 : decode cX6_hull 8 = .ok (.bipush (-2), 2) := by decide +kernel
theorem dX6_hull_10 : decode cX6_hull 10 = .ok (.invokevirtual 177, 3) := by decide +kernel
theorem dX6_hull_13 : decode cX6_hull 13 = .ok (.lreturn, 1) := by decide +kernel
theorem dX6_hull_14 : decode cX6_hull 14 = .ok (.aload_n 0, 1) := by decide +kernel
theorem dX6_hull_15 : decode cX6_hull 15 = .ok (.invokevirtual 200, 3) := by decide +kernel
theorem dX6_hull_18 : decode cX6_hull 18 = .ok (.ifCond .ne 10, 3) := by decide +kernel
theorem dX6_hull_21 : decode cX6_hull 21 = .ok (.aload_n 0, 1) := by decide +kernel
theorem dX6_hull_22 : decode cX6_hull 22 = .ok (.bipush (-3), 2) := by decide +kernel
theorem dX6_hull_24 : decode cX6_hull 24 = .ok (.invokevirtual 177, 3) := by decide +kernel
theorem dX6_hull_27 : decode cX6_hull 27 = .ok (.lreturn, 1) := by decide +kernel
theorem dX6_hull_28 : decode cX6_hull 28 = .ok (.aload_n 0, 1) := by decide +kernel
theorem dX6_hull_29 : decode cX6_hull 29 = .ok (.invokevirtual 270, 3) := by decide +kernel
theorem dX6_hull_32 : decode cX6_hull 32 = .ok (.istore_n 2, 1) := by decide +kernel
theorem dX6_hull_33 : decode cX6_hull 33 = .ok (.lconst 0, 1) := by decide +kernel
theorem dX6_hull_34 : decode cX6_hull 34 = .ok (.lstore_n 3, 1) := by decide +kernel
theorem dX6_hull_35 : decode cX6_hull 35 = .ok (.iconst 0, 1) := by decide +kernel
theorem dX6_hull_36 : decode cX6_hull 36 = .ok (.istore 5, 2) := by decide +kernel
theorem dX6_hull_38 : decode cX6_hull 38 = .ok (.iload_n 2, 1) := by decide +kernel
theorem dX6_hull_39 : decode cX6_hull 39 = .ok (.iload 5, 2) := by decide +kernel
theorem dX6_hull_41 : decode cX6_hull 41 = .ok (.ishr, 1) := by decide +kernel
theorem dX6_hull_42 : decode cX6_hull 42 = .ok (.iconst 1, 1) := by decide +kernel
theorem dX6_hull_43 : decode cX6_hull 43 = .ok (.iand, 1) := by decide +kernel
theorem dX6_hull_44 : decode cX6_hull 44 = .ok (.ifCond .ne 9, 3) := by decide +kernel
theorem dX6_hull_47 : decode cX6_hull 47 = .ok (.iinc 5 1, 3) := by decide +kernel
theorem dX6_hull_50 : decode cX6_hull 50 = .ok (.goto (-12), 3) := by decide +kernel
theorem dX6_hull_53 : decode cX6_hull 53 = .ok (.iload 5, 2) := by decide +kernel
theorem dX6_hull_55 : decode cX6_hull 55 = .ok (.istore 6, 2) := by decide +kernel
theorem dX6_hull_57 : decode cX6_hull 57 = .ok (.iload_n 2, 1) := by decide +kernel
theorem dX6_hull_58 : decode cX6_hull 58 = .ok (.invokestatic 273, 3) := by decide +kernel
theorem dX6_hull_61 : decode cX6_hull 61 = .ok (.istore 7, 2) := by decide +kernel
theorem dX6_hull_63 : decode cX6_hull 63 = .ok (.iload 7, 2) := by decide +kernel
theorem dX6_hull_65 : decode cX6_hull 65 = .ok (.iconst 2, 1) := by decide +kernel
theorem dX6_hull_66 : decode cX6_hull 66 = .ok (.if_icmp .le 35, 3) := by decide +kernel
theorem dX6_hull_69 : decode cX6_hull 69 = .ok (.aload_n 0, 1) := by decide +kernel
theorem dX6_hull_70 : decode cX6_hull 70 = .ok (.iload_n 2, 1) := by decide +kernel
theorem dX6_hull_71 : decode cX6_hull 71 = .ok (.iload 6, 2) := by decide +kernel
theorem dX6_hull_73 : decode cX6_hull 73 = .ok (.invokevirtual 276, 3) := by decide +kernel
theorem dX6_hull_76 : decode cX6_hull 76 = .ok (.istore 8, 2) := by decide +kernel
theorem dX6_hull_78 : decode cX6_hull 78 = .ok (.lload_n 3, 1) := by decide +kernel
theorem dX6_hull_79 : decode cX6_hull 79 = .ok (.aload_n 0, 1) := by decide +kernel
theorem dX6_hull_80 : decode cX6_hull 80 = .ok (.iload 5, 2) := by decide +kernel
theorem dX6_hull_82 : decode cX6_hull 82 = .ok (.iload 6, 2) := by decide +kernel
theorem dX6_hull_84 : decode cX6_hull 84 = .ok (.iload 8, 2) := by decide +kernel
theorem dX6_hull_86 : decode cX6_hull 86 = .ok (.invokevirtual 232, 3) := by decide +kernel
theorem dX6_hull_89 : decode cX6_hull 89 = .ok (.ladd, 1) := by decide +kernel
theorem dX6_hull_90 : decode cX6_hull 90 = .ok (.lstore_n 3, 1) := by decide +kernel
theorem dX6_hull_91 : decode cX6_hull 91 = .ok (.iload 8, 2) := by decide +kernel
theorem dX6_hull_93 : decode cX6_hull 93 = .ok (.istore 6, 2) := by decide +kernel
theorem dX6_hull_95 : decode cX6_hull 95 = .ok (.iinc 7 (-1), 3) := by decide +kernel
theorem dX6_hull_98 : decode cX6_hull 98 = .ok (.goto (-35), 3) := by decide +kernel
theorem dX6_hull_101 : decode cX6_hull 101 = .ok (.iload_n 2, 1) := by decide +kernel
theorem dX6_hull_102 : decode cX6_hull 102 = .ok (.invokestatic 273, 3) := by decide +kernel
theorem dX6_hull_105 : decode cX6_hull 105 = .ok (.iconst 2, 1) := by decide +kernel
theorem dX6_hull_106 : decode cX6_hull 106 = .ok (.if_icmp .le 21, 3) := by decide +kernel
theorem dX6_hull_109 : decode cX6_hull 109 = .ok (.lload_n 3, 1) := by decide +kernel
theorem dX6_hull_110 : decode cX6_hull 110 = .ok (.aload_n 0, 1) := by decide +kernel
theorem dX6_hull_111 : decode cX6_hull 111 = .ok (.iload 5, 2) := by decide +kernel
theorem dX6_hull_113 : decode cX6_hull 113 = .ok (.iload 6, 2) := by decide +kernel
theorem dX6_hull_115 : decode cX6_hull 115 = .ok (.aload_n 0, 1) := by decide +kernel
theorem dX6_hull_116 : decode cX6_hull 116 = .ok (.iload_n 2, 1) := by decide +kernel
theorem dX6_hull_117 : decode cX6_hull 117 = .ok (.iload 6, 2) := by decide +kernel
theorem dX6_hull_119 : decode cX6_hull 119 = .ok (.invokevirtual 276, 3) := by decide +kernel
theorem dX6_hull_122 : decode cX6_hull 122 = .ok (.invokevirtual 232, 3) := by decide +kernel
theorem dX6_hull_125 : decode cX6_hull 125 = .ok (.ladd, 1) := by decide +kernel
theorem dX6_hull_126 : decode cX6_hull 126 = .ok (.lstore_n 3, 1) := by decide +kernel
theorem dX6_hull_127 : decode cX6_hull 127 = .ok (.aload_n 0, 1) := by decide +kernel
theorem dX6_hull_128 : decode cX6_hull 128 = .ok (.lload_n 3, 1) := by decide +kernel
theorem dX6_hull_129 : decode cX6_hull 129 = .ok (.lconst 0, 1) := by decide +kernel
theorem dX6_hull_130 : decode cX6_hull 130 = .ok (.lcmp, 1) := by decide +kernel
theorem dX6_hull_131 : decode cX6_hull 131 = .ok (.ifCond .ge 8, 3) := by decide +kernel
theorem dX6_hull_134 : decode cX6_hull 134 = .ok (.lload_n 3, 1) := by decide +kernel
theorem dX6_hull_135 : decode cX6_hull 135 = .ok (.lneg, 1) := by decide +kernel
theorem dX6_hull_136 : decode cX6_hull 136 = .ok (.goto 4, 3) := by decide +kernel
theorem dX6_hull_139 : decode cX6_hull 139 = .ok (.lload_n 3, 1) := by decide +kernel
theorem dX6_hull_140 : decode cX6_hull 140 = .ok (.iload_n 1, 1) := by decide +kernel
theorem dX6_hull_141 : decode cX6_hull 141 = .ok (.invokevirtual 223, 3) := by decide +kernel
theorem dX6_hull_144 : decode cX6_hull 144 = .ok (.lreturn, 1) := by decide +kernel
theorem dX6_lost_0 : decode cX6_lost 0 = .ok (.aload_n 0, 1) := by decide +kernel
theorem dX6_lost_1 : decode cX6_lost 1 = .ok (.iload_n 1, 1) := by decide +kernel
theorem dX6_lost_2 : decode cX6_lost 2 = .ok (.invokevirtual 106, 3) := by decide +kernel
theorem dX6_lost_5 : decode cX6_lost 5 = .ok (.ifCond .ne 9, 3) := by decide +kernel
theorem dX6_lost_8 : decode cX6_lost 8 = .ok (.aload_n 0, 1) := by decide +kernel
theorem dX6_lost_9 : decode cX6_lost 9 = .ok (.iconst (-1), 1) := by decide +kernel
theorem dX6_lost_10 : decode cX6_lost 10 = .ok (.invokevirtual 177, 3) := by decide +kernel
theorem dX6_lost_13 : decode cX6_lost 13 = .ok (.lreturn, 1) := by decide +kernel
theorem dX6_lost_14 : decode cX6_lost 14 = .ok (.iload_n 2, 1) := by decide +kernel
theorem dX6_lost_15 : decode cX6_lost 15 = .ok (.i2l, 1) := by decide +kernel
theorem dX6_lost_16 : decode cX6_lost 16 = .ok (.lconst 0, 1) := by decide +kernel
theorem dX6_lost_17 : decode cX6_lost 17 = .ok (.lconst 1, 1) := by decide +kernel
theorem dX6_lost_18 : decode cX6_lost 18 = .ok (.invokestatic 67, 3) := by decide +kernel
theorem dX6_lost_21 : decode cX6_lost 21 = .ok (.ifCond .eq 20, 3) := by decide +kernel
theorem dX6_lost_24 : decode cX6_lost 24 = .ok (.aload_n 0, 1) := by decide +kernel
theorem dX6_lost_25 : decode cX6_lost 25 = .ok (.iload_n 1, 1) := by decide +kernel
theorem dX6_lost_26 : decode cX6_lost 26 = .ok (.iload_n 2, 1) := by decide +kernel
theorem dX6_lost_27 : decode cX6_lost 27 = .ok (.invokevirtual 93, 3) := by decide +kernel
theorem dX6_lost_30 : decode cX6_lost 30 = .ok (.i2l, 1) := by decide +kernel
theorem dX6_lost_31 : decode cX6_lost 31 = .ok (.aload_n 0, 1) := by decide +kernel
theorem dX6_lost_32 : decode cX6_lost 32 = .ok (.iload_n 2, 1) := by decide +kernel
theorem dX6_lost_33 : decode cX6_lost 33 = .ok (.invokevirtual 181, 3) := by decide +kernel
theorem dX6_lost_36 : decode cX6_lost 36 = .ok (.i2l, 1) := by decide +kernel
theorem dX6_lost_37 : decode cX6_lost 37 = .ok (.lsub, 1) := by decide +kernel
theorem dX6_lost_38 : decode cX6_lost 38 = .ok (.goto 9, 3) := by decide +kernel
theorem dX6_lost_41 : decode cX6_lost 41 = .ok (.aload_n 0, 1) := by decide +kernel
theorem dX6_lost_42 : decode cX6_lost 42 = .ok (.bipush (-2), 2) := by decide +kernel
theorem dX6_lost_44 : decode cX6_lost 44 = .ok (.invokevirtual 177, 3) := by decide +kernel
theorem dX6_lost_47 : decode cX6_lost 47 = .ok (.lreturn, 1) := by decide +kernel
theorem dX6_lengths_0 : decode cX6_lengths 0 = .ok (.aload_n 0, 1) := by decide +kernel
theorem dX6_lengths_1 : decode cX6_lengths 1 = .ok (.iload_n 1, 1) := by decide +kernel
theorem dX6_lengths_2 : decode cX6_lengths 2 = .ok (.invokevirtual 106, 3) := by decide +kernel
theorem dX6_lengths_5 : decode cX6_lengths 5 = .ok (.ifCond .eq 16, 3) := by decide +kernel
theorem dX6_lengths_8 : decode cX6_lengths 8 = .ok (.aload_n 0, 1) := by decide +kernel
theorem dX6_lengths_9 : decode cX6_lengths 9 = .ok (.iload_n 2, 1) := by decide +kernel
theorem dX6_lengths_10 : decode cX6_lengths 10 = .ok (.invokevirtual 106, 3) := by decide +kernel
theorem dX6_lengths_13 : decode cX6_lengths 13 = .ok (.ifCond .eq 8, 3) := by decide +kernel
theorem dX6_lengths_16 : decode cX6_lengths 16 = .ok (.iload_n 1, 1) := by decide +kernel
theorem dX6_lengths_17 : decode cX6_lengths 17 = .ok (.iload_n 2, 1) := by decide +kernel
theorem dX6_lengths_18 : decode cX6_lengths 18 = .ok (.if_icmp .ne 9, 3) := by decide +kernel
theorem dX6_lengths_21 : decode cX6_lengths 21 = .ok (.aload_n 0, 1) := by decide +kernel
theorem dX6_lengths_22 : decode cX6_lengths 22 = .ok (.iconst (-1), 1) := by decide +kernel
theorem dX6_lengths_23 : decode cX6_lengths 23 = .ok (.invokevirtual 177, 3) := by decide +kernel
theorem dX6_lengths_26 : decode cX6_lengths 26 = .ok (.lreturn, 1) := by decide +kernel
theorem dX6_lengths_27 : decode cX6_lengths 27 = .ok (.iload_n 3, 1) := by decide +kernel
theorem dX6_lengths_28 : decode cX6_lengths 28 = .ok (.i2l, 1) := by decide +kernel
theorem dX6_lengths_29 : decode cX6_lengths 29 = .ok (.lconst 0, 1) := by decide +kernel
theorem dX6_lengths_30 : decode cX6_lengths 30 = .ok (.lconst 1, 1) := by decide +kernel
theorem dX6_lengths_31 : decode cX6_lengths 31 = .ok (.invokestatic 67, 3) := by decide +kernel
theorem dX6_lengths_34 : decode cX6_lengths 34 = .ok (.ifCond .eq 11, 3) := by decide +kernel
theorem dX6_lengths_37 : decode cX6_lengths 37 = .ok (.iload 4, 2) := by decide +kernel
theorem dX6_lengths_39 : decode cX6_lengths 39 = .ok (.invokestatic 197, 3) := by decide +kernel
theorem dX6_lengths_42 : decode cX6_lengths 42 = .ok (.ifCond .ne 10, 3) := by decide +kernel
theorem dX6_lengths_45 : decode cX6_lengths 45 = .ok (.aload_n 0, 1) := by decide +kernel
theorem dX6_lengths_46 : decode cX6_lengths 46 = .ok (.bipush (-2), 2) := by decide +kernel
theorem dX6_lengths_48 : decode cX6_lengths 48 = .ok (.invokevirtual 177, 3) := by decide +kernel
theorem dX6_lengths_51 : decode cX6_lengths 51 = .ok (.lreturn, 1) := by decide +kernel
theorem dX6_lengths_52 : decode cX6_lengths 52 = .ok (.aload_n 0, 1) := by decide +kernel
theorem dX6_lengths_53 : decode cX6_lengths 53 = .ok (.iload_n 1, 1) := by decide +kernel
theorem dX6_lengths_54 : decode cX6_lengths 54 = .ok (.iconst 0, 1) := by decide +kernel
theorem dX6_lengths_55 : decode cX6_lengths 55 = .ok (.invokevirtual 90, 3) := by decide +kernel
theorem dX6_lengths_58 : decode cX6_lengths 58 = .ok (.i2l, 1) := by decide +kernel
theorem dX6_lengths_59 : decode cX6_lengths 59 = .ok (.lstore 5, 2) := by decide +kernel
theorem dX6_lengths_61 : decode cX6_lengths 61 = .ok (.aload_n 0, 1) := by decide +kernel
theorem dX6_lengths_62 : decode cX6_lengths 62 = .ok (.iload_n 1, 1) := by decide +kernel
theorem dX6_lengths_63 : decode cX6_lengths 63 = .ok (.iconst 1, 1) := by decide +kernel
theorem dX6_lengths_64 : decode cX6_lengths 64 = .ok (.invokevirtual 90, 3) := by decide +kernel
theorem dX6_lengths_67 : decode cX6_lengths 67 = .ok (.i2l, 1) := by decide +kernel
theorem dX6_lengths_68 : decode cX6_lengths 68 = .ok (.lstore 7, 2) := by decide +kernel
theorem dX6_lengths_70 : decode cX6_lengths 70 = .ok (.aload_n 0, 1) := by decide +kernel
theorem dX6_lengths_71 : decode cX6_lengths 71 = .ok (.iload_n 2, 1) := by decide +kernel
theorem dX6_lengths_72 : decode cX6_lengths 72 = .ok (.iconst 0, 1) := by decide +kernel
theorem dX6_lengths_73 : decode cX6_lengths 73 = .ok (.invokevirtual 90, 3) := by decide +kernel
theorem dX6_lengths_76 : decode cX6_lengths 76 = .ok (.i2l, 1) := by decide +kernel
theorem dX6_lengths_77 : decode cX6_lengths 77 = .ok (.lstore 9, 2) := by decide +kernel
theorem dX6_lengths_79 : decode cX6_lengths 79 = .ok (.aload_n 0, 1) := by decide +kernel
theorem dX6_lengths_80 : decode cX6_lengths 80 = .ok (.iload_n 2, 1) := by decide +kernel
theorem dX6_lengths_81 : decode cX6_lengths 81 = .ok (.iconst 1, 1) := by decide +kernel
theorem dX6_lengths_82 : decode cX6_lengths 82 = .ok (.invokevirtual 90, 3) := by decide +kernel
theorem dX6_lengths_85 : decode cX6_lengths 85 = .ok (.i2l, 1) := by decide +kernel
theorem dX6_lengths_86 : decode cX6_lengths 86 = .ok (.lstore 11, 2) := by decide +kernel
theorem dX6_lengths_88 : decode cX6_lengths 88 = .ok (.aload_n 0, 1) := by decide +kernel
theorem dX6_lengths_89 : decode cX6_lengths 89 = .ok (.iconst 0, 1) := by decide +kernel
theorem dX6_lengths_90 : decode cX6_lengths 90 = .ok (.invokevirtual 181, 3) := by decide +kernel
theorem dX6_lengths_93 : decode cX6_lengths 93 = .ok (.i2l, 1) := by decide +kernel
theorem dX6_lengths_94 : decode cX6_lengths 94 = .ok (.aload_n 0, 1) := by decide +kernel
theorem dX6_lengths_95 : decode cX6_lengths 95 = .ok (.iload_n 1, 1) := by decide +kernel
theorem dX6_lengths_96 : decode cX6_lengths 96 = .ok (.iconst 0, 1) := by decide +kernel
theorem dX6_lengths_97 : decode cX6_lengths 97 = .ok (.invokevirtual 93, 3) := by decide +kernel
theorem dX6_lengths_100 : decode cX6_lengths 100 = .ok (.i2l, 1) := by decide +kernel
theorem dX6_lengths_101 : decode cX6_lengths 101 = .ok (.lsub, 1) := by decide +kernel
theorem dX6_lengths_102 : decode cX6_lengths 102 = .ok (.aload_n 0, 1) := by decide +kernel
theorem dX6_lengths_103 : decode cX6_lengths 103 = .ok (.iload_n 2, 1) := by decide +kernel
theorem dX6_lengths_104 : decode cX6_lengths 104 = .ok (.iconst 0, 1) := by decide +kernel
theorem dX6_lengths_105 : decode cX6_lengths 105 = .ok (.invokevirtual 93, 3) := by decide +kernel
theorem dX6_lengths_108 : decode cX6_lengths 108 = .ok (.i2l, 1) := by decide +kernel
theorem dX6_lengths_109 : decode cX6_lengths 109 = .ok (.lsub, 1) := by decide +kernel
theorem dX6_lengths_110 : decode cX6_lengths 110 = .ok (.lstore 13, 2) := by decide +kernel
theorem dX6_lengths_112 : decode cX6_lengths 112 = .ok (.aload_n 0, 1) := by decide +kernel
theorem dX6_lengths_113 : decode cX6_lengths 113 = .ok (.iconst 1, 1) := by decide +kernel
theorem dX6_lengths_114 : decode cX6_lengths 114 = .ok (.invokevirtual 181, 3) := by decide +kernel
theorem dX6_lengths_117 : decode cX6_lengths 117 = .ok (.i2l, 1) := by decide +kernel
theorem dX6_lengths_118 : decode cX6_lengths 118 = .ok (.aload_n 0, 1) := by decide +kernel
theorem dX6_lengths_119 : decode cX6_lengths 119 = .ok (.iload_n 1, 1) := by decide +kernel
theorem dX6_lengths_120 : decode cX6_lengths 120 = .ok (.iconst 1, 1) := by decide +kernel
theorem dX6_lengths_121 : decode cX6_lengths 121 = .ok (.invokevirtual 93, 3) := by decide +kernel
theorem dX6_lengths_124 : decode cX6_lengths 124 = .ok (.i2l, 1) := by decide +kernel
theorem dX6_lengths_125 : decode cX6_lengths 125 = .ok (.lsub, 1) := by decide +kernel
theorem dX6_lengths_126 : decode cX6_lengths 126 = .ok (.aload_n 0, 1) := by decide +kernel
theorem dX6_lengths_127 : decode cX6_lengths 127 = .ok (.iload_n 2, 1) := by decide +kernel
theorem dX6_lengths_128 : decode cX6_lengths 128 = .ok (.iconst 1, 1) := by decide +kernel
theorem dX6_lengths_129 : decode cX6_lengths 129 = .ok (.invokevirtual 93, 3) := by decide +kernel
theorem dX6_lengths_132 : decode cX6_lengths 132 = .ok (.i2l, 1) := by decide +kernel
theorem dX6_lengths_133 : decode cX6_lengths 133 = .ok (.lsub, 1) := by decide +kernel
theorem dX6_lengths_134 : decode cX6_lengths 134 = .ok (.lstore 15, 2) := by decide +kernel
theorem dX6_lengths_136 : decode cX6_lengths 136 = .ok (.lload 5, 2) := by decide +kernel
theorem dX6_lengths_138 : decode cX6_lengths 138 = .ok (.lload 11, 2) := by decide +kernel
theorem dX6_lengths_140 : decode cX6_lengths 140 = .ok (.lmul, 1) := by decide +kernel
theorem dX6_lengths_141 : decode cX6_lengths 141 = .ok (.lload 7, 2) := by decide +kernel
theorem dX6_lengths_143 : decode cX6_lengths 143 = .ok (.lload 9, 2) := by decide +kernel
theorem dX6_lengths_145 : decode cX6_lengths 145 = .ok (.lmul, 1) := by decide +kernel
theorem dX6_lengths_146 : decode cX6_lengths 146 = .ok (.lsub, 1) := by decide +kernel
theorem dX6_lengths_147 : decode cX6_lengths 147 = .ok (.lstore 17, 2) := by decide +kernel
theorem dX6_lengths_149 : decode cX6_lengths 149 = .ok (.lload 17, 2) := by decide +kernel
theorem dX6_lengths_151 : decode cX6_lengths 151 = .ok (.lconst 0, 1) := by decide +kernel
theorem dX6_lengths_152 : decode cX6_lengths 152 = .ok (.lcmp, 1) := by decide +kernel
theorem dX6_lengths_153 : decode cX6_lengths 153 = .ok (.ifCond .ne 10, 3) := by decide +kernel
theorem dX6_lengths_156 : decode cX6_lengths 156 = .ok (.aload_n 0, 1) := by decide +kernel
theorem dX6_lengths_157 : decode cX6_lengths 157 = .ok (.bipush (-3), 2) := by decide +kernel
theorem dX6_lengths_159 : decode cX6_lengths 159 = .ok (.invokevirtual 177, 3) := by decide +kernel
theorem dX6_lengths_162 : decode cX6_lengths 162 = .ok (.lreturn, 1) := by decide +kernel
theorem dX6_lengths_163 : decode cX6_lengths 163 = .ok (.iload_n 3, 1) := by decide +kernel
theorem dX6_lengths_164 : decode cX6_lengths 164 = .ok (.ifCond .ne 17, 3) := by decide +kernel
theorem dX6_lengths_167 : decode cX6_lengths 167 = .ok (.lload 9, 2) := by decide +kernel
theorem dX6_lengths_169 : decode cX6_lengths 169 = .ok (.lload 15, 2) := by decide +kernel
theorem dX6_lengths_171 : decode cX6_lengths 171 = .ok (.lmul, 1) := by decide +kernel
theorem dX6_lengths_172 : decode cX6_lengths 172 = .ok (.lload 11, 2) := by decide +kernel
theorem dX6_lengths_174 : decode cX6_lengths 174 = .ok (.lload 13, 2) := by decide +kernel
theorem dX6_lengths_176 : decode cX6_lengths 176 = .ok (.lmul, 1) := by decide +kernel
theorem dX6_lengths_177 : decode cX6_lengths 177 = .ok (.lsub, 1) := by decide +kernel
theorem dX6_lengths_178 : decode cX6_lengths 178 = .ok (.goto 14, 3) := by decide +kernel
theorem dX6_lengths_181 : decode cX6_lengths 181 = .ok (.lload 7, 2) := by decide +kernel
theorem dX6_lengths_183 : decode cX6_lengths 183 = .ok (.lload 13, 2) := by decide +kernel
theorem dX6_lengths_185 : decode cX6_lengths 185 = .ok (.lmul, 1) := by decide +kernel
theorem dX6_lengths_186 : decode cX6_lengths 186 = .ok (.lload 5, 2) := by decide +kernel
theorem dX6_lengths_188 : decode cX6_lengths 188 = .ok (.lload 15, 2) := by decide +kernel
theorem dX6_lengths_190 : decode cX6_lengths 190 = .ok (.lmul, 1) := by decide +kernel
theorem dX6_lengths_191 : decode cX6_lengths 191 = .ok (.lsub, 1) := by decide +kernel
theorem dX6_lengths_192 : decode cX6_lengths 192 = .ok (.lload 17, 2) := by decide +kernel
theorem dX6_lengths_194 : decode cX6_lengths 194 = .ok (.iload 4, 2) := by decide +kernel
theorem dX6_lengths_196 : decode cX6_lengths 196 = .ok (.invokestatic 204, 3) := by decide +kernel
theorem dX6_lengths_199 : decode cX6_lengths 199 = .ok (.lreturn, 1) := by decide +kernel
theorem dX6_missWithout_0 : decode cX6_missWithout 0 = .ok (.iconst 0, 1) := by decide +kernel
theorem dX6_missWithout_1 : decode cX6_missWithout 1 = .ok (.istore_n 2, 1) := by decide +kernel
theorem dX6_missWithout_2 : decode cX6_missWithout 2 = .ok (.iconst 0, 1) := by decide +kernel
theorem dX6_missWithout_3 : decode cX6_missWithout 3 = .ok (.istore_n 3, 1) := by decide +kernel
theorem dX6_missWithout_4 : decode cX6_missWithout 4 = .ok (.iload_n 3, 1) := by decide +kernel
theorem dX6_missWithout_5 : decode cX6_missWithout 5 = .ok (.iconst 2, 1) := by decide +kernel
theorem dX6_missWithout_6 : decode cX6_missWithout 6 = .ok (.if_icmp .ge 37, 3) := by decide +kernel
theorem dX6_missWithout_9 : decode cX6_missWithout 9 = .ok (.iload_n 2, 1) := by decide +kernel
theorem dX6_missWithout_10 : decode cX6_missWithout 10 = .ok (.aload_n 0, 1) := by decide +kernel
theorem dX6_missWithout_11 : decode cX6_missWithout 11 = .ok (.iload_n 3, 1) := by decide +kernel
theorem dX6_missWithout_12 : decode cX6_missWithout 12 = .ok (.invokevirtual 181, 3) := by decide +kernel
theorem dX6_missWithout_15 : decode cX6_missWithout 15 = .ok (.iload_n 1, 1) := by decide +kernel
theorem dX6_missWithout_16 : decode cX6_missWithout 16 = .ok (.bipush (-9), 2) := by decide +kernel
theorem dX6_missWithout_18 : decode cX6_missWithout 18 = .ok (.if_icmp .ne 7, 3) := by decide +kernel
theorem dX6_missWithout_21 : decode cX6_missWithout 21 = .ok (.iconst 0, 1) := by decide +kernel
theorem dX6_missWithout_22 : decode cX6_missWithout 22 = .ok (.goto 9, 3) := by decide +kernel
theorem dX6_missWithout_25 : decode cX6_missWithout 25 = .ok (.aload_n 0, 1) := by decide +kernel
theorem dX6_missWithout_26 : decode cX6_missWithout 26 = .ok (.iload_n 1, 1) := by decide +kernel
theorem dX6_missWithout_27 : decode cX6_missWithout 27 = .ok (.iload_n 3, 1) := by decide +kernel
theorem dX6_missWithout_28 : decode cX6_missWithout 28 = .ok (.invokevirtual 93, 3) := by decide +kernel
theorem dX6_missWithout_31 : decode cX6_missWithout 31 = .ok (.isub, 1) := by decide +kernel
theorem dX6_missWithout_32 : decode cX6_missWithout 32 = .ok (.invokestatic 71, 3) := by decide +kernel
theorem dX6_missWithout_35 : decode cX6_missWithout 35 = .ok (.iadd, 1) := by decide +kernel
theorem dX6_missWithout_36 : decode cX6_missWithout 36 = .ok (.istore_n 2, 1) := by decide +kernel
theorem dX6_missWithout_37 : decode cX6_missWithout 37 = .ok (.iinc 3 1, 3) := by decide +kernel
theorem dX6_missWithout_40 : decode cX6_missWithout 40 = .ok (.goto (-36), 3) := by decide +kernel
theorem dX6_missWithout_43 : decode cX6_missWithout 43 = .ok (.iload_n 2, 1) := by decide +kernel
theorem dX6_missWithout_44 : decode cX6_missWithout 44 = .ok (.ireturn, 1) := by decide +kernel
theorem dX6_worst_0 : decode cX6_worst 0 = .ok (.iload_n 1, 1) := by decide +kernel
theorem dX6_worst_1 : decode cX6_worst 1 = .ok (.i2l, 1) := by decide +kernel
theorem dX6_worst_2 : decode cX6_worst 2 = .ok (.lconst 0, 1) := by decide +kernel
theorem dX6_worst_3 : decode cX6_worst 3 = .ok (.lconst 1, 1) := by decide +kernel
theorem dX6_worst_4 : decode cX6_worst 4 = .ok (.invokestatic 67, 3) := by decide +kernel
theorem dX6_worst_7 : decode cX6_worst 7 = .ok (.ifCond .ne 10, 3) := by decide +kernel
theorem dX6_worst_10 : decode cX6_worst 10 = .ok (.aload_n 0, 1) := by decide +kernel
theorem dX6_worst_11 : decode cX6_worst 11 = .ok (.bipush (-2), 2) := by decide +kernel
theorem dX6_worst_13 : decode cX6_worst 13 = .ok (.invokevirtual 13, 3) := by decide +kernel
theorem dX6_worst_16 : decode cX6_worst 16 = .ok (.ireturn, 1) := by decide +kernel
theorem dX6_worst_17 : decode cX6_worst 17 = .ok (.bipush (-9), 2) := by decide +kernel
theorem dX6_worst_19 : decode cX6_worst 19 = .ok (.istore_n 2, 1) := by decide +kernel
theorem dX6_worst_20 : decode cX6_worst 20 = .ok (.aload_n 0, 1) := by decide +kernel
theorem dX6_worst_21 : decode cX6_worst 21 = .ok (.bipush (-9), 2) := by decide +kernel
theorem dX6_worst_23 : decode cX6_worst 23 = .ok (.invokevirtual 279, 3) := by decide +kernel
theorem dX6_worst_26 : decode cX6_worst 26 = .ok (.istore_n 3, 1) := by decide +kernel
theorem dX6_worst_27 : decode cX6_worst 27 = .ok (.iconst 0, 1) := by decide +kernel
theorem dX6_worst_28 : decode cX6_worst 28 = .ok (.istore 4, 2) := by decide +kernel
theorem dX6_worst_30 : decode cX6_worst 30 = .ok (.iload 4, 2) := by decide +kernel
theorem dX6_worst_32 : decode cX6_worst 32 = .ok (.aload_n 0, 1) := by decide +kernel
theorem dX6_worst_33 : decode cX6_worst 33 = .ok (.invokevirtual 63, 3) := by decide +kernel
theorem dX6_worst_36 : decode cX6_worst 36 = .ok (.if_icmp .ge 32, 3) := by decide +kernel
theorem dX6_worst_39 : decode cX6_worst 39 = .ok (.aload_n 0, 1) := by decide +kernel
theorem dX6_worst_40 : decode cX6_worst 40 = .ok (.iload 4, 2) := by decide +kernel
theorem dX6_worst_42 : decode cX6_worst 42 = .ok (.invokevirtual 279, 3) := by decide +kernel
theorem dX6_worst_45 : decode cX6_worst 45 = .ok (.istore 5, 2) := by decide +kernel
theorem dX6_worst_47 : decode cX6_worst 47 = .ok (.iload 5, 2) := by decide +kernel
theorem dX6_worst_49 : decode cX6_worst 49 = .ok (.iload_n 3, 1) := by decide +kernel
theorem dX6_worst_50 : decode cX6_worst 50 = .ok (.if_icmp .lt 6, 3) := by decide +kernel
theorem dX6_worst_53 : decode cX6_worst 53 = .ok (.goto 9, 3) := by decide +kernel
theorem dX6_worst_56 : decode cX6_worst 56 = .ok (.iload 4, 2) := by decide +kernel
theorem dX6_worst_58 : decode cX6_worst 58 = .ok (.istore_n 2, 1) := by decide +kernel
theorem dX6_worst_59 : decode cX6_worst 59 = .ok (.iload 5, 2) := by decide +kernel
theorem dX6_worst_61 : decode cX6_worst 61 = .ok (.istore_n 3, 1) := by decide +kernel
theorem dX6_worst_62 : decode cX6_worst 62 = .ok (.iinc 4 1, 3) := by decide +kernel
theorem dX6_worst_65 : decode cX6_worst 65 = .ok (.goto (-35), 3) := by decide +kernel
theorem dX6_worst_68 : decode cX6_worst 68 = .ok (.iload_n 2, 1) := by decide +kernel
theorem dX6_worst_69 : decode cX6_worst 69 = .ok (.bipush (-9), 2) := by decide +kernel
theorem dX6_worst_71 : decode cX6_worst 71 = .ok (.if_icmp .eq 7, 3) := by decide +kernel
theorem dX6_worst_74 : decode cX6_worst 74 = .ok (.iload_n 1, 1) := by decide +kernel
theorem dX6_worst_75 : decode cX6_worst 75 = .ok (.ifCond .ne 7, 3) := by decide +kernel
theorem dX6_worst_78 : decode cX6_worst 78 = .ok (.iload_n 2, 1) := by decide +kernel
theorem dX6_worst_79 : decode cX6_worst 79 = .ok (.goto 4, 3) := by decide +kernel
theorem dX6_worst_82 : decode cX6_worst 82 = .ok (.iload_n 3, 1) := by decide +kernel
theorem dX6_worst_83 : decode cX6_worst 83 = .ok (.ireturn, 1) := by decide +kernel
theorem dX6_ahead_0 : decode cX6_ahead 0 = .ok (.iconst 0, 1) := by decide +kernel
theorem dX6_ahead_1 : decode cX6_ahead 1 = .ok (.istore_n 2, 1) := by decide +kernel
theorem dX6_ahead_2 : decode cX6_ahead 2 = .ok (.iconst 0, 1) := by decide +kernel
theorem dX6_ahead_3 : decode cX6_ahead 3 = .ok (.istore_n 3, 1) := by decide +kernel
theorem dX6_ahead_4 : decode cX6_ahead 4 = .ok (.iload_n 3, 1) := by decide +kernel
theorem dX6_ahead_5 : decode cX6_ahead 5 = .ok (.aload_n 0, 1) := by decide +kernel
theorem dX6_ahead_6 : decode cX6_ahead 6 = .ok (.invokevirtual 63, 3) := by decide +kernel
theorem dX6_ahead_9 : decode cX6_ahead 9 = .ok (.if_icmp .ge 48, 3) := by decide +kernel
theorem dX6_ahead_12 : decode cX6_ahead 12 = .ok (.iload_n 2, 1) := by decide +kernel
theorem dX6_ahead_13 : decode cX6_ahead 13 = .ok (.aload_n 0, 1) := by decide +kernel
theorem dX6_ahead_14 : decode cX6_ahead 14 = .ok (.iload_n 3, 1) := by decide +kernel
theorem dX6_ahead_15 : decode cX6_ahead 15 = .ok (.invokevirtual 96, 3) := by decide +kernel
theorem dX6_ahead_18 : decode cX6_ahead 18 = .ok (.aload_n 0, 1) := by decide +kernel
theorem dX6_ahead_19 : decode cX6_ahead 19 = .ok (.iload_n 1, 1) := by decide +kernel
theorem dX6_ahead_20 : decode cX6_ahead 20 = .ok (.invokevirtual 96, 3) := by decide +kernel
theorem dX6_ahead_23 : decode cX6_ahead 23 = .ok (.if_icmp .gt 21, 3) := by decide +kernel
theorem dX6_ahead_26 : decode cX6_ahead 26 = .ok (.aload_n 0, 1) := by decide +kernel
theorem dX6_ahead_27 : decode cX6_ahead 27 = .ok (.iload_n 3, 1) := by decide +kernel
theorem dX6_ahead_28 : decode cX6_ahead 28 = .ok (.invokevirtual 96, 3) := by decide +kernel
theorem dX6_ahead_31 : decode cX6_ahead 31 = .ok (.aload_n 0, 1) := by decide +kernel
theorem dX6_ahead_32 : decode cX6_ahead 32 = .ok (.iload_n 1, 1) := by decide +kernel
theorem dX6_ahead_33 : decode cX6_ahead 33 = .ok (.invokevirtual 96, 3) := by decide +kernel
theorem dX6_ahead_36 : decode cX6_ahead 36 = .ok (.if_icmp .ne 12, 3) := by decide +kernel
theorem dX6_ahead_39 : decode cX6_ahead 39 = .ok (.iload_n 3, 1) := by decide +kernel
theorem dX6_ahead_40 : decode cX6_ahead 40 = .ok (.iload_n 1, 1) := by decide +kernel
theorem dX6_ahead_41 : decode cX6_ahead 41 = .ok (.if_icmp .ge 7, 3) := by decide +kernel
theorem dX6_ahead_44 : decode cX6_ahead 44 = .ok (.iconst 1, 1) := by decide +kernel
theorem dX6_ahead_45 : decode cX6_ahead 45 = .ok (.goto 4, 3) := by decide +kernel
theorem dX6_ahead_48 : decode cX6_ahead 48 = .ok (.iconst 0, 1) := by decide +kernel
theorem dX6_ahead_49 : decode cX6_ahead 49 = .ok (.iadd, 1) := by decide +kernel
theorem dX6_ahead_50 : decode cX6_ahead 50 = .ok (.istore_n 2, 1) := by decide +kernel
theorem dX6_ahead_51 : decode cX6_ahead 51 = .ok (.iinc 3 1, 3) := by decide +kernel
theorem dX6_ahead_54 : decode cX6_ahead 54 = .ok (.goto (-50), 3) := by decide +kernel
theorem dX6_ahead_57 : decode cX6_ahead 57 = .ok (.iload_n 2, 1) := by decide +kernel
theorem dX6_ahead_58 : decode cX6_ahead 58 = .ok (.ireturn, 1) := by decide +kernel
theorem dX6_order_0 : decode cX6_order 0 = .ok (.iconst 0, 1) := by decide +kernel
theorem dX6_order_1 : decode cX6_order 1 = .ok (.istore_n 2, 1) := by decide +kernel
theorem dX6_order_2 : decode cX6_order 2 = .ok (.iload_n 2, 1) := by decide +kernel
theorem dX6_order_3 : decode cX6_order 3 = .ok (.aload_n 0, 1) := by decide +kernel
theorem dX6_order_4 : decode cX6_order 4 = .ok (.invokevirtual 63, 3) := by decide +kernel
theorem dX6_order_7 : decode cX6_order 7 = .ok (.if_icmp .ge 20, 3) := by decide +kernel
theorem dX6_order_10 : decode cX6_order 10 = .ok (.aload_n 0, 1) := by decide +kernel
theorem dX6_order_11 : decode cX6_order 11 = .ok (.iload_n 2, 1) := by decide +kernel
theorem dX6_order_12 : decode cX6_order 12 = .ok (.invokevirtual 282, 3) := by decide +kernel
theorem dX6_order_15 : decode cX6_order 15 = .ok (.iload_n 1, 1) := by decide +kernel
theorem dX6_order_16 : decode cX6_order 16 = .ok (.if_icmp .ne 5, 3) := by decide +kernel
theorem dX6_order_19 : decode cX6_order 19 = .ok (.iload_n 2, 1) := by decide +kernel
theorem dX6_order_20 : decode cX6_order 20 = .ok (.ireturn, 1) := by decide +kernel
theorem dX6_order_21 : decode cX6_order 21 = .ok (.iinc 2 1, 3) := by decide +kernel
theorem dX6_order_24 : decode cX6_order 24 = .ok (.goto (-22), 3) := by decide +kernel
theorem dX6_order_27 : decode cX6_order 27 = .ok (.aload_n 0, 1) := by decide +kernel
theorem dX6_order_28 : decode cX6_order 28 = .ok (.iconst (-1), 1) := by decide +kernel
theorem dX6_order_29 : decode cX6_order 29 = .ok (.invokevirtual 13, 3) := by decide +kernel
theorem dX6_order_32 : decode cX6_order 32 = .ok (.ireturn, 1) := by decide +kernel
theorem dX6_likely_0 : decode cX6_likely 0 = .ok (.iload_n 1, 1) := by decide +kernel
theorem dX6_likely_1 : decode cX6_likely 1 = .ok (.iconst 2, 1) := by decide +kernel
theorem dX6_likely_2 : decode cX6_likely 2 = .ok (.if_icmp .lt 7, 3) := by decide +kernel
theorem dX6_likely_5 : decode cX6_likely 5 = .ok (.iload_n 2, 1) := by decide +kernel
theorem dX6_likely_6 : decode cX6_likely 6 = .ok (.ifCond .ge 10, 3) := by decide +kernel
theorem dX6_likely_9 : decode cX6_likely 9 = .ok (.aload_n 0, 1) := by decide +kernel
theorem dX6_likely_10 : decode cX6_likely 10 = .ok (.bipush (-4), 2) := by decide +kernel
theorem dX6_likely_12 : decode cX6_likely 12 = .ok (.invokevirtual 177, 3) := by decide +kernel
theorem dX6_likely_15 : decode cX6_likely 15 = .ok (.lreturn, 1) := by decide +kernel
theorem dX6_likely_16 : decode cX6_likely 16 = .ok (.iload_n 1, 1) := by decide +kernel
theorem dX6_likely_17 : decode cX6_likely 17 = .ok (.bipush 20, 2) := by decide +kernel
theorem dX6_likely_19 : decode cX6_likely 19 = .ok (.if_icmp .gt 10, 3) := by decide +kernel
theorem dX6_likely_22 : decode cX6_likely 22 = .ok (.iload_n 2, 1) := by decide +kernel
theorem dX6_likely_23 : decode cX6_likely 23 = .ok (.sipush 9999, 3) := by decide +kernel
theorem dX6_likely_26 : decode cX6_likely 26 = .ok (.if_icmp .le 10, 3) := by decide +kernel
theorem dX6_likely_29 : decode cX6_likely 29 = .ok (.aload_n 0, 1) := by decide +kernel
theorem dX6_likely_30 : decode cX6_likely 30 = .ok (.bipush (-6), 2) := by decide +kernel
theorem dX6_likely_32 : decode cX6_likely 32 = .ok (.invokevirtual 177, 3) := by decide +kernel
theorem dX6_likely_35 : decode cX6_likely 35 = .ok (.lreturn, 1) := by decide +kernel
theorem dX6_likely_36 : decode cX6_likely 36 = .ok (.iload_n 3, 1) := by decide +kernel
theorem dX6_likely_37 : decode cX6_likely 37 = .ok (.invokestatic 197, 3) := by decide +kernel
theorem dX6_likely_40 : decode cX6_likely 40 = .ok (.ifCond .ne 10, 3) := by decide +kernel
theorem dX6_likely_43 : decode cX6_likely 43 = .ok (.aload_n 0, 1) := by decide +kernel
theorem dX6_likely_44 : decode cX6_likely 44 = .ok (.bipush (-2), 2) := by decide +kernel
theorem dX6_likely_46 : decode cX6_likely 46 = .ok (.invokevirtual 177, 3) := by decide +kernel
theorem dX6_likely_49 : decode cX6_likely 49 = .ok (.lreturn, 1) := by decide +kernel
theorem dX6_likely_50 : decode cX6_likely 50 = .ok (.lconst 0, 1) := by decide +kernel
theorem dX6_likely_51 : decode cX6_likely 51 = .ok (.lstore 4, 2) := by decide +kernel
theorem dX6_likely_53 : decode cX6_likely 53 = .ok (.lconst 1, 1) := by decide +kernel
theorem dX6_likely_54 : decode cX6_likely 54 = .ok (.lstore 6, 2) := by decide +kernel
theorem dX6_likely_56 : decode cX6_likely 56 = .ok (.iconst 0, 1) := by decide +kernel
theorem dX6_likely_57 : decode cX6_likely 57 = .ok (.istore 8, 2) := by decide +kernel
theorem dX6_likely_59 : decode cX6_likely 59 = .ok (.iload 8, 2) := by decide +kernel
theorem dX6_likely_61 : decode cX6_likely 61 = .ok (.aload_n 0, 1) := by decide +kernel
theorem dX6_likely_62 : decode cX6_likely 62 = .ok (.invokevirtual 63, 3) := by decide +kernel
theorem dX6_likely_65 : decode cX6_likely 65 = .ok (.if_icmp .ge 16, 3) := by decide +kernel
theorem dX6_likely_68 : decode cX6_likely 68 = .ok (.lload 6, 2) := by decide +kernel
theorem dX6_likely_70 : decode cX6_likely 70 = .ok (.iload_n 1, 1) := by decide +kernel
theorem dX6_likely_71 : decode cX6_likely 71 = .ok (.i2l, 1) := by decide +kernel
theorem dX6_likely_72 : decode cX6_likely 72 = .ok (.lmul, 1) := by decide +kernel
theorem dX6_likely_73 : decode cX6_likely 73 = .ok (.lstore 6, 2) := by decide +kernel
theorem dX6_likely_75 : decode cX6_likely 75 = .ok (.iinc 8 1, 3) := by decide +kernel
theorem dX6_likely_78 : decode cX6_likely 78 = .ok (.goto (-19), 3) := by decide +kernel
theorem dX6_likely_81 : decode cX6_likely 81 = .ok (.iconst 0, 1) := by decide +kernel
theorem dX6_likely_82 : decode cX6_likely 82 = .ok (.istore 8, 2) := by decide +kernel
theorem dX6_likely_84 : decode cX6_likely 84 = .ok (.iload 8, 2) := by decide +kernel
theorem dX6_likely_86 : decode cX6_likely 86 = .ok (.iconst 1, 1) := by decide +kernel
theorem dX6_likely_87 : decode cX6_likely 87 = .ok (.aload_n 0, 1) := by decide +kernel
theorem dX6_likely_88 : decode cX6_likely 88 = .ok (.invokevirtual 63, 3) := by decide +kernel
theorem dX6_likely_91 : decode cX6_likely 91 = .ok (.ishl, 1) := by decide +kernel
theorem dX6_likely_92 : decode cX6_likely 92 = .ok (.if_icmp .ge 148, 3) := by decide +kernel
theorem dX6_likely_95 : decode cX6_likely 95 = .ok (.lconst 1, 1) := by decide +kernel
theorem dX6_likely_96 : decode cX6_likely 96 = .ok (.lstore 9, 2) := by decide +kernel
theorem dX6_likely_98 : decode cX6_likely 98 = .ok (.aload_n 0, 1) := by decide +kernel
theorem dX6_likely_99 : decode cX6_likely 99 = .ok (.iconst 0, 1) := by decide +kernel
theorem dX6_likely_100 : decode cX6_likely 100 = .ok (.invokevirtual 181, 3) := by decide +kernel
theorem dX6_likely_103 : decode cX6_likely 103 = .ok (.istore 11, 2) := by decide +kernel
theorem dX6_likely_105 : decode cX6_likely 105 = .ok (.aload_n 0, 1) := by decide +kernel
theorem dX6_likely_106 : decode cX6_likely 106 = .ok (.iconst 1, 1) := by decide +kernel
theorem dX6_likely_107 : decode cX6_likely 107 = .ok (.invokevirtual 181, 3) := by decide +kernel
theorem dX6_likely_110 : decode cX6_likely 110 = .ok (.istore 12, 2) := by decide +kernel
theorem dX6_likely_112 : decode cX6_likely 112 = .ok (.iconst 0, 1) := by decide +kernel
theorem dX6_likely_113 : decode cX6_likely 113 = .ok (.istore 13, 2) := by decide +kernel
theorem dX6_likely_115 : decode cX6_likely 115 = .ok (.iload 13, 2) := by decide +kernel
theorem dX6_likely_117 : decode cX6_likely 117 = .ok (.aload_n 0, 1) := by decide +kernel
theorem dX6_likely_118 : decode cX6_likely 118 = .ok (.invokevirtual 63, 3) := by decide +kernel
theorem dX6_likely_121 : decode cX6_likely 121 = .ok (.if_icmp .ge 87, 3) := by decide +kernel
theorem dX6_likely_124 : decode cX6_likely 124 = .ok (.iload 8, 2) := by decide +kernel
theorem dX6_likely_126 : decode cX6_likely 126 = .ok (.iload 13, 2) := by decide +kernel
theorem dX6_likely_128 : decode cX6_likely 128 = .ok (.ishr, 1) := by decide +kernel
theorem dX6_likely_129 : decode cX6_likely 129 = .ok (.iconst 1, 1) := by decide +kernel
theorem dX6_likely_130 : decode cX6_likely 130 = .ok (.iand, 1) := by decide +kernel
theorem dX6_likely_131 : decode cX6_likely 131 = .ok (.iconst 1, 1) := by decide +kernel
theorem dX6_likely_132 : decode cX6_likely 132 = .ok (.if_icmp .ne 7, 3) := by decide +kernel
theorem dX6_likely_135 : decode cX6_likely 135 = .ok (.iconst 1, 1) := by decide +kernel
theorem dX6_likely_136 : decode cX6_likely 136 = .ok (.goto 4, 3) := by decide +kernel
theorem dX6_likely_139 : decode cX6_likely 139 = .ok (.iconst 0, 1) := by decide +kernel
theorem dX6_likely_140 : decode cX6_likely 140 = .ok (.istore 14, 2) := by decide +kernel
theorem dX6_likely_142 : decode cX6_likely 142 = .ok (.lload 9, 2) := by decide +kernel
theorem dX6_likely_144 : decode cX6_likely 144 = .ok (.iload 14, 2) := by decide +kernel
theorem dX6_likely_146 : decode cX6_likely 146 = .ok (.ifCond .eq 7, 3) := by decide +kernel
theorem dX6_likely_149 : decode cX6_likely 149 = .ok (.lconst 1, 1) := by decide +kernel
theorem dX6_likely_150 : decode cX6_likely 150 = .ok (.goto 7, 3) := by decide +kernel
theorem dX6_likely_153 : decode cX6_likely 153 = .ok (.iload_n 1, 1) := by decide +kernel
theorem dX6_likely_154 : decode cX6_likely 154 = .ok (.i2l, 1) := by decide +kernel
theorem dX6_likely_155 : decode cX6_likely 155 = .ok (.lconst 1, 1) := by decide +kernel
theorem dX6_likely_156 : decode cX6_likely 156 = .ok (.lsub, 1) := by decide +kernel
theorem dX6_likely_157 : decode cX6_likely 157 = .ok (.lmul, 1) := by decide +kernel
theorem dX6_likely_158 : decode cX6_likely 158 = .ok (.lstore 9, 2) := by decide +kernel
theorem dX6_likely_160 : decode cX6_likely 160 = .ok (.iload 11, 2) := by decide +kernel
theorem dX6_likely_162 : decode cX6_likely 162 = .ok (.iload 14, 2) := by decide +kernel
theorem dX6_likely_164 : decode cX6_likely 164 = .ok (.ifCond .eq 13, 3) := by decide +kernel
theorem dX6_likely_167 : decode cX6_likely 167 = .ok (.aload_n 0, 1) := by decide +kernel
theorem dX6_likely_168 : decode cX6_likely 168 = .ok (.iload 13, 2) := by decide +kernel
theorem dX6_likely_170 : decode cX6_likely 170 = .ok (.iconst 0, 1) := by decide +kernel
theorem dX6_likely_171 : decode cX6_likely 171 = .ok (.invokevirtual 93, 3) := by decide +kernel
theorem dX6_likely_174 : decode cX6_likely 174 = .ok (.goto 4, 3) := by decide +kernel
theorem dX6_likely_177 : decode cX6_likely 177 = .ok (.iconst 0, 1) := by decide +kernel
theorem dX6_likely_178 : decode cX6_likely 178 = .ok (.isub, 1) := by decide +kernel
theorem dX6_likely_179 : decode cX6_likely 179 = .ok (.istore 11, 2) := by decide +kernel
theorem dX6_likely_181 : decode cX6_likely 181 = .ok (.iload 12, 2) := by decide +kernel
theorem dX6_likely_183 : decode cX6_likely 183 = .ok (.iload 14, 2) := by decide +kernel
theorem dX6_likely_185 : decode cX6_likely 185 = .ok (.ifCond .eq 13, 3) := by decide +kernel
theorem dX6_likely_188 : decode cX6_likely 188 = .ok (.aload_n 0, 1) := by decide +kernel
theorem dX6_likely_189 : decode cX6_likely 189 = .ok (.iload 13, 2) := by decide +kernel
theorem dX6_likely_191 : decode cX6_likely 191 = .ok (.iconst 1, 1) := by decide +kernel
theorem dX6_likely_192 : decode cX6_likely 192 = .ok (.invokevirtual 93, 3) := by decide +kernel
theorem dX6_likely_195 : decode cX6_likely 195 = .ok (.goto 4, 3) := by decide +kernel
theorem dX6_likely_198 : decode cX6_likely 198 = .ok (.iconst 0, 1) := by decide +kernel
theorem dX6_likely_199 : decode cX6_likely 199 = .ok (.isub, 1) := by decide +kernel
theorem dX6_likely_200 : decode cX6_likely 200 = .ok (.istore 12, 2) := by decide +kernel
theorem dX6_likely_202 : decode cX6_likely 202 = .ok (.iinc 13 1, 3) := by decide +kernel
theorem dX6_likely_205 : decode cX6_likely 205 = .ok (.goto (-90), 3) := by decide +kernel
theorem dX6_likely_208 : decode cX6_likely 208 = .ok (.lload 4, 2) := by decide +kernel
theorem dX6_likely_210 : decode cX6_likely 210 = .ok (.iload 11, 2) := by decide +kernel
theorem dX6_likely_212 : decode cX6_likely 212 = .ok (.invokestatic 71, 3) := by decide +kernel
theorem dX6_likely_215 : decode cX6_likely 215 = .ok (.iload 12, 2) := by decide +kernel
theorem dX6_likely_217 : decode cX6_likely 217 = .ok (.invokestatic 71, 3) := by decide +kernel
theorem dX6_likely_220 : decode cX6_likely 220 = .ok (.iadd, 1) := by decide +kernel
theorem dX6_likely_221 : decode cX6_likely 221 = .ok (.iload_n 2, 1) := by decide +kernel
theorem dX6_likely_222 : decode cX6_likely 222 = .ok (.if_icmp .gt 8, 3) := by decide +kernel
theorem dX6_likely_225 : decode cX6_likely 225 = .ok (.lload 9, 2) := by decide +kernel
theorem dX6_likely_227 : decode cX6_likely 227 = .ok (.goto 4, 3) := by decide +kernel
theorem dX6_likely_230 : decode cX6_likely 230 = .ok (.lconst 0, 1) := by decide +kernel
theorem dX6_likely_231 : decode cX6_likely 231 = .ok (.ladd, 1) := by decide +kernel
theorem dX6_likely_232 : decode cX6_likely 232 = .ok (.lstore 4, 2) := by decide +kernel
theorem dX6_likely_234 : decode cX6_likely 234 = .ok (.iinc 8 1, 3) := by decide +kernel
theorem dX6_likely_237 : decode cX6_likely 237 = .ok (.goto (-153), 3) := by decide +kernel
theorem dX6_likely_240 : decode cX6_likely 240 = .ok (.lload 4, 2) := by decide +kernel
theorem dX6_likely_242 : decode cX6_likely 242 = .ok (.lload 6, 2) := by decide +kernel
theorem dX6_likely_244 : decode cX6_likely 244 = .ok (.iload_n 3, 1) := by decide +kernel
theorem dX6_likely_245 : decode cX6_likely 245 = .ok (.invokestatic 204, 3) := by decide +kernel
theorem dX6_likely_248 : decode cX6_likely 248 = .ok (.lreturn, 1) := by decide +kernel
theorem dX6_parcelOf_0 : decode cX6_parcelOf 0 = .ok (.lconst 0, 1) := by decide +kernel
theorem dX6_parcelOf_1 : decode cX6_parcelOf 1 = .ok (.lstore_n 3, 1) := by decide +kernel
theorem dX6_parcelOf_2 : decode cX6_parcelOf 2 = .ok (.iconst 1, 1) := by decide +kernel
theorem dX6_parcelOf_3 : decode cX6_parcelOf 3 = .ok (.istore 5, 2) := by decide +kernel
theorem dX6_parcelOf_5 : decode cX6_parcelOf 5 = .ok (.iload 5, 2) := by decide +kernel
theorem dX6_parcelOf_7 : decode cX6_parcelOf 7 = .ok (.iload_n 2, 1) := by decide +kernel
theorem dX6_parcelOf_8 : decode cX6_parcelOf 8 = .ok (.if_icmp .gt 37, 3) := by decide +kernel
theorem dX6_parcelOf_11 : decode cX6_parcelOf 11 = .ok (.lload_n 3, 1) := by decide +kernel
theorem dX6_parcelOf_12 : decode cX6_parcelOf 12 = .ok (.aload_n 0, 1) := by decide +kernel
theorem dX6_parcelOf_13 : decode cX6_parcelOf 13 = .ok (.iload_n 1, 1) := by decide +kernel
theorem dX6_parcelOf_14 : decode cX6_parcelOf 14 = .ok (.iload_n 1, 1) := by decide +kernel
theorem dX6_parcelOf_15 : decode cX6_parcelOf 15 = .ok (.iload 5, 2) := by decide +kernel
theorem dX6_parcelOf_17 : decode cX6_parcelOf 17 = .ok (.iadd, 1) := by decide +kernel
theorem dX6_parcelOf_18 : decode cX6_parcelOf 18 = .ok (.aload_n 0, 1) := by decide +kernel
theorem dX6_parcelOf_19 : decode cX6_parcelOf 19 = .ok (.invokevirtual 63, 3) := by decide +kernel
theorem dX6_parcelOf_22 : decode cX6_parcelOf 22 = .ok (.irem, 1) := by decide +kernel
theorem dX6_parcelOf_23 : decode cX6_parcelOf 23 = .ok (.iload_n 1, 1) := by decide +kernel
theorem dX6_parcelOf_24 : decode cX6_parcelOf 24 = .ok (.iload 5, 2) := by decide +kernel
theorem dX6_parcelOf_26 : decode cX6_parcelOf 26 = .ok (.iadd, 1) := by decide +kernel
theorem dX6_parcelOf_27 : decode cX6_parcelOf 27 = .ok (.iconst 1, 1) := by decide +kernel
theorem dX6_parcelOf_28 : decode cX6_parcelOf 28 = .ok (.iadd, 1) := by decide +kernel
theorem dX6_parcelOf_29 : decode cX6_parcelOf 29 = .ok (.aload_n 0, 1) := by decide +kernel
theorem dX6_parcelOf_30 : decode cX6_parcelOf 30 = .ok (.invokevirtual 63, 3) := by decide +kernel
theorem dX6_parcelOf_33 : decode cX6_parcelOf 33 = .ok (.irem, 1) := by decide +kernel
theorem dX6_parcelOf_34 : decode cX6_parcelOf 34 = .ok (.invokevirtual 232, 3) := by decide +kernel
theorem dX6_parcelOf_37 : decode cX6_parcelOf 37 = .ok (.ladd, 1) := by decide +kernel
theorem dX6_parcelOf_38 : decode cX6_parcelOf 38 = .ok (.lstore_n 3, 1) := by decide +kernel
theorem dX6_parcelOf_39 : decode cX6_parcelOf 39 = .ok (.iinc 5 1, 3) := by decide +kernel
theorem dX6_parcelOf_42 : decode cX6_parcelOf 42 = .ok (.goto (-37), 3) := by decide +kernel
theorem dX6_parcelOf_45 : decode cX6_parcelOf 45 = .ok (.lload_n 3, 1) := by decide +kernel
theorem dX6_parcelOf_46 : decode cX6_parcelOf 46 = .ok (.lreturn, 1) := by decide +kernel
theorem dX6_parcel_0 : decode cX6_parcel 0 = .ok (.aload_n 0, 1) := by decide +kernel
theorem dX6_parcel_1 : decode cX6_parcel 1 = .ok (.iload_n 1, 1) := by decide +kernel
theorem dX6_parcel_2 : decode cX6_parcel 2 = .ok (.invokevirtual 106, 3) := by decide +kernel
theorem dX6_parcel_5 : decode cX6_parcel 5 = .ok (.ifCond .ne 9, 3) := by decide +kernel
theorem dX6_parcel_8 : decode cX6_parcel 8 = .ok (.aload_n 0, 1) := by decide +kernel
theorem dX6_parcel_9 : decode cX6_parcel 9 = .ok (.iconst (-1), 1) := by decide +kernel
theorem dX6_parcel_10 : decode cX6_parcel 10 = .ok (.invokevirtual 177, 3) := by decide +kernel
theorem dX6_parcel_13 : decode cX6_parcel 13 = .ok (.lreturn, 1) := by decide +kernel
theorem dX6_parcel_14 : decode cX6_parcel 14 = .ok (.iload_n 2, 1) := by decide +kernel
theorem dX6_parcel_15 : decode cX6_parcel 15 = .ok (.ifCond .ge 10, 3) := by decide +kernel
theorem dX6_parcel_18 : decode cX6_parcel 18 = .ok (.aload_n 0, 1) := by decide +kernel
theorem dX6_parcel_19 : decode cX6_parcel 19 = .ok (.bipush (-4), 2) := by decide +kernel
theorem dX6_parcel_21 : decode cX6_parcel 21 = .ok (.invokevirtual 177, 3) := by decide +kernel
theorem dX6_parcel_24 : decode cX6_parcel 24 = .ok (.lreturn, 1) := by decide +kernel
theorem dX6_parcel_25 : decode cX6_parcel 25 = .ok (.iload_n 2, 1) := by decide +kernel
theorem dX6_parcel_26 : decode cX6_parcel 26 = .ok (.aload_n 0, 1) := by decide +kernel
theorem dX6_parcel_27 : decode cX6_parcel 27 = .ok (.invokevirtual 63, 3) := by decide +kernel
theorem dX6_parcel_30 : decode cX6_parcel 30 = .ok (.iconst 2, 1) := by decide +kernel
theorem dX6_parcel_31 : decode cX6_parcel 31 = .ok (.isub, 1) := by decide +kernel
theorem dX6_parcel_32 : decode cX6_parcel 32 = .ok (.if_icmp .le 10, 3) := by decide +kernel
theorem dX6_parcel_35 : decode cX6_parcel 35 = .ok (.aload_n 0, 1) := by decide +kernel
theorem dX6_parcel_36 : decode cX6_parcel 36 = .ok (.bipush (-6), 2) := by decide +kernel
theorem dX6_parcel_38 : decode cX6_parcel 38 = .ok (.invokevirtual 177, 3) := by decide +kernel
theorem dX6_parcel_41 : decode cX6_parcel 41 = .ok (.lreturn, 1) := by decide +kernel
theorem dX6_parcel_42 : decode cX6_parcel 42 = .ok (.iload_n 3, 1) := by decide +kernel
theorem dX6_parcel_43 : decode cX6_parcel 43 = .ok (.invokestatic 197, 3) := by decide +kernel
theorem dX6_parcel_46 : decode cX6_parcel 46 = .ok (.ifCond .ne 10, 3) := by decide +kernel
theorem dX6_parcel_49 : decode cX6_parcel 49 = .ok (.aload_n 0, 1) := by decide +kernel
theorem dX6_parcel_50 : decode cX6_parcel 50 = .ok (.bipush (-2), 2) := by decide +kernel
theorem dX6_parcel_52 : decode cX6_parcel 52 = .ok (.invokevirtual 177, 3) := by decide +kernel
theorem dX6_parcel_55 : decode cX6_parcel 55 = .ok (.lreturn, 1) := by decide +kernel
theorem dX6_parcel_56 : decode cX6_parcel 56 = .ok (.aload_n 0, 1) := by decide +kernel
theorem dX6_parcel_57 : decode cX6_parcel 57 = .ok (.invokevirtual 200, 3) := by decide +kernel
theorem dX6_parcel_60 : decode cX6_parcel 60 = .ok (.ifCond .eq 17, 3) := by decide +kernel
theorem dX6_parcel_63 : decode cX6_parcel 63 = .ok (.aload_n 0, 1) := by decide +kernel
theorem dX6_parcel_64 : decode cX6_parcel 64 = .ok (.aload_n 0, 1) := by decide +kernel
theorem dX6_parcel_65 : decode cX6_parcel 65 = .ok (.iload_n 1, 1) := by decide +kernel
theorem dX6_parcel_66 : decode cX6_parcel 66 = .ok (.iload_n 2, 1) := by decide +kernel
theorem dX6_parcel_67 : decode cX6_parcel 67 = .ok (.invokevirtual 285, 3) := by decide +kernel
theorem dX6_parcel_70 : decode cX6_parcel 70 = .ok (.iload_n 3, 1) := by decide +kernel
theorem dX6_parcel_71 : decode cX6_parcel 71 = .ok (.invokevirtual 223, 3) := by decide +kernel
theorem dX6_parcel_74 : decode cX6_parcel 74 = .ok (.goto 9, 3) := by decide +kernel
theorem dX6_parcel_77 : decode cX6_parcel 77 = .ok (.aload_n 0, 1) := by decide +kernel
theorem dX6_parcel_78 : decode cX6_parcel 78 = .ok (.bipush (-3), 2) := by decide +kernel
theorem dX6_parcel_80 : decode cX6_parcel 80 = .ok (.invokevirtual 177, 3) := by decide +kernel
theorem dX6_parcel_83 : decode cX6_parcel 83 = .ok (.lreturn, 1) := by decide +kernel
theorem dX6_cut_0 : decode cX6_cut 0 = .ok (.aload_n 0, 1) := by decide +kernel
theorem dX6_cut_1 : decode cX6_cut 1 = .ok (.iload_n 1, 1) := by decide +kernel
theorem dX6_cut_2 : decode cX6_cut 2 = .ok (.invokevirtual 106, 3) := by decide +kernel
theorem dX6_cut_5 : decode cX6_cut 5 = .ok (.ifCond .ne 9, 3) := by decide +kernel
theorem dX6_cut_8 : decode cX6_cut 8 = .ok (.aload_n 0, 1) := by decide +kernel
theorem dX6_cut_9 : decode cX6_cut 9 = .ok (.iconst (-1), 1) := by decide +kernel
theorem dX6_cut_10 : decode cX6_cut 10 = .ok (.invokevirtual 177, 3) := by decide +kernel
theorem dX6_cut_13 : decode cX6_cut 13 = .ok (.lreturn, 1) := by decide +kernel
theorem dX6_cut_14 : decode cX6_cut 14 = .ok (.iload_n 2, 1) := by decide +kernel
theorem dX6_cut_15 : decode cX6_cut 15 = .ok (.sipush (-9999), 3) := by decide +kernel
theorem dX6_cut_18 : decode cX6_cut 18 = .ok (.if_icmp .ge 10, 3) := by decide +kernel
theorem dX6_cut_21 : decode cX6_cut 21 = .ok (.aload_n 0, 1) := by decide +kernel
theorem dX6_cut_22 : decode cX6_cut 22 = .ok (.bipush (-4), 2) := by decide +kernel
theorem dX6_cut_24 : decode cX6_cut 24 = .ok (.invokevirtual 177, 3) := by decide +kernel
theorem dX6_cut_27 : decode cX6_cut 27 = .ok (.lreturn, 1) := by decide +kernel
theorem dX6_cut_28 : decode cX6_cut 28 = .ok (.iload_n 2, 1) := by decide +kernel
theorem dX6_cut_29 : decode cX6_cut 29 = .ok (.sipush 9999, 3) := by decide +kernel
theorem dX6_cut_32 : decode cX6_cut 32 = .ok (.if_icmp .le 10, 3) := by decide +kernel
theorem dX6_cut_35 : decode cX6_cut 35 = .ok (.aload_n 0, 1) := by decide +kernel
theorem dX6_cut_36 : decode cX6_cut 36 = .ok (.bipush (-6), 2) := by decide +kernel
theorem dX6_cut_38 : decode cX6_cut 38 = .ok (.invokevirtual 177, 3) := by decide +kernel
theorem dX6_cut_41 : decode cX6_cut 41 = .ok (.lreturn, 1) := by decide +kernel
theorem dX6_cut_42 : decode cX6_cut 42 = .ok (.iload_n 3, 1) := by decide +kernel
theorem dX6_cut_43 : decode cX6_cut 43 = .ok (.i2l, 1) := by decide +kernel
theorem dX6_cut_44 : decode cX6_cut 44 = .ok (.lconst 0, 1) := by decide +kernel
theorem dX6_cut_45 : decode cX6_cut 45 = .ok (.ldc2_w 218, 3) := by decide +kernel
theorem dX6_cut_48 : decode cX6_cut 48 = .ok (.invokestatic 67, 3) := by decide +kernel
theorem dX6_cut_51 : decode cX6_cut 51 = .ok (.ifCond .ne 10, 3) := by decide +kernel
theorem dX6_cut_54 : decode cX6_cut 54 = .ok (.aload_n 0, 1) := by decide +kernel
theorem dX6_cut_55 : decode cX6_cut 55 = .ok (.bipush (-2), 2) := by decide +kernel
theorem dX6_cut_57 : decode cX6_cut 57 = .ok (.invokevirtual 177, 3) := by decide +kernel
theorem dX6_cut_60 : decode cX6_cut 60 = .ok (.lreturn, 1) := by decide +kernel
theorem dX6_cut_61 : decode cX6_cut 61 = .ok (.aload_n 0, 1) := by decide +kernel
theorem dX6_cut_62 : decode cX6_cut 62 = .ok (.invokevirtual 200, 3) := by decide +kernel
theorem dX6_cut_65 : decode cX6_cut 65 = .ok (.ifCond .ne 10, 3) := by decide +kernel
theorem dX6_cut_68 : decode cX6_cut 68 = .ok (.aload_n 0, 1) := by decide +kernel
theorem dX6_cut_69 : decode cX6_cut 69 = .ok (.bipush (-3), 2) := by decide +kernel
theorem dX6_cut_71 : decode cX6_cut 71 = .ok (.invokevirtual 177, 3) := by decide +kernel
theorem dX6_cut_74 : decode cX6_cut 74 = .ok (.lreturn, 1) := by decide +kernel
theorem dX6_cut_75 : decode cX6_cut 75 = .ok (.ldc2_w 289, 3) := by decide +kernel
theorem dX6_cut_78 : decode cX6_cut 78 = .ok (.aload_n 0, 1) := by decide +kernel
theorem dX6_cut_79 : decode cX6_cut 79 = .ok (.getfield 193, 3) := by decide +kernel
theorem dX6_cut_82 : decode cX6_cut 82 = .ok (.lmul, 1) := by decide +kernel
theorem dX6_cut_83 : decode cX6_cut 83 = .ok (.aload_n 0, 1) := by decide +kernel
theorem dX6_cut_84 : decode cX6_cut 84 = .ok (.getfield 193, 3) := by decide +kernel
theorem dX6_cut_87 : decode cX6_cut 87 = .ok (.lmul, 1) := by decide +kernel
theorem dX6_cut_88 : decode cX6_cut 88 = .ok (.iload_n 2, 1) := by decide +kernel
theorem dX6_cut_89 : decode cX6_cut 89 = .ok (.i2l, 1) := by decide +kernel
theorem dX6_cut_90 : decode cX6_cut 90 = .ok (.lmul, 1) := by decide +kernel
theorem dX6_cut_91 : decode cX6_cut 91 = .ok (.lstore 4, 2) := by decide +kernel
theorem dX6_cut_93 : decode cX6_cut 93 = .ok (.iconst 1, 1) := by decide +kernel
theorem dX6_cut_94 : decode cX6_cut 94 = .ok (.istore 6, 2) := by decide +kernel
theorem dX6_cut_96 : decode cX6_cut 96 = .ok (.iload 6, 2) := by decide +kernel
theorem dX6_cut_98 : decode cX6_cut 98 = .ok (.aload_n 0, 1) := by decide +kernel
theorem dX6_cut_99 : decode cX6_cut 99 = .ok (.invokevirtual 63, 3) := by decide +kernel
theorem dX6_cut_102 : decode cX6_cut 102 = .ok (.iconst 2, 1) := by decide +kernel
theorem dX6_cut_103 : decode cX6_cut 103 = .ok (.isub, 1) := by decide +kernel
theorem dX6_cut_104 : decode cX6_cut 104 = .ok (.if_icmp .gt 117, 3) := by decide +kernel
theorem dX6_cut_107 : decode cX6_cut 107 = .ok (.lload 4, 2) := by decide +kernel
theorem dX6_cut_109 : decode cX6_cut 109 = .ok (.aload_n 0, 1) := by decide +kernel
theorem dX6_cut_110 : decode cX6_cut 110 = .ok (.iload_n 1, 1) := by decide +kernel
theorem dX6_cut_111 : decode cX6_cut 111 = .ok (.iload 6, 2) := by decide +kernel
theorem dX6_cut_113 : decode cX6_cut 113 = .ok (.iconst 1, 1) := by decide +kernel
theorem dX6_cut_114 : decode cX6_cut 114 = .ok (.isub, 1) := by decide +kernel
theorem dX6_cut_115 : decode cX6_cut 115 = .ok (.invokevirtual 285, 3) := by decide +kernel
theorem dX6_cut_118 : decode cX6_cut 118 = .ok (.lsub, 1) := by decide +kernel
theorem dX6_cut_119 : decode cX6_cut 119 = .ok (.lstore 7, 2) := by decide +kernel
theorem dX6_cut_121 : decode cX6_cut 121 = .ok (.lload 4, 2) := by decide +kernel
theorem dX6_cut_123 : decode cX6_cut 123 = .ok (.aload_n 0, 1) := by decide +kernel
theorem dX6_cut_124 : decode cX6_cut 124 = .ok (.iload_n 1, 1) := by decide +kernel
theorem dX6_cut_125 : decode cX6_cut 125 = .ok (.iload 6, 2) := by decide +kernel
theorem dX6_cut_127 : decode cX6_cut 127 = .ok (.invokevirtual 285, 3) := by decide +kernel
theorem dX6_cut_130 : decode cX6_cut 130 = .ok (.lsub, 1) := by decide +kernel
theorem dX6_cut_131 : decode cX6_cut 131 = .ok (.lstore 9, 2) := by decide +kernel
theorem dX6_cut_133 : decode cX6_cut 133 = .ok (.lload 7, 2) := by decide +kernel
theorem dX6_cut_135 : decode cX6_cut 135 = .ok (.lconst 0, 1) := by decide +kernel
theorem dX6_cut_136 : decode cX6_cut 136 = .ok (.lcmp, 1) := by decide +kernel
theorem dX6_cut_137 : decode cX6_cut 137 = .ok (.ifCond .eq 40, 3) := by decide +kernel
theorem dX6_cut_140 : decode cX6_cut 140 = .ok (.lload 9, 2) := by decide +kernel
theorem dX6_cut_142 : decode cX6_cut 142 = .ok (.lconst 0, 1) := by decide +kernel
theorem dX6_cut_143 : decode cX6_cut 143 = .ok (.lcmp, 1) := by decide +kernel
theorem dX6_cut_144 : decode cX6_cut 144 = .ok (.ifCond .eq 33, 3) := by decide +kernel
theorem dX6_cut_147 : decode cX6_cut 147 = .ok (.lload 7, 2) := by decide +kernel
theorem dX6_cut_149 : decode cX6_cut 149 = .ok (.lconst 0, 1) := by decide +kernel
theorem dX6_cut_150 : decode cX6_cut 150 = .ok (.lcmp, 1) := by decide +kernel
theorem dX6_cut_151 : decode cX6_cut 151 = .ok (.ifCond .le 7, 3) := by decide +kernel
theorem dX6_cut_154 : decode cX6_cut 154 = .ok (.iconst 1, 1) := by decide +kernel
theorem dX6_cut_155 : decode cX6_cut 155 = .ok (.goto 4, 3) := by decide +kernel
theorem dX6_cut_158 : decode cX6_cut 158 = .ok (.iconst 0, 1) := by decide +kernel
theorem dX6_cut_159 : decode cX6_cut 159 = .ok (.lload 9, 2) := by decide +kernel
theorem dX6_cut_161 : decode cX6_cut 161 = .ok (.lconst 0, 1) := by decide +kernel
theorem dX6_cut_162 : decode cX6_cut 162 = .ok (.lcmp, 1) := by decide +kernel
theorem dX6_cut_163 : decode cX6_cut 163 = .ok (.ifCond .le 7, 3) := by decide +kernel
theorem dX6_cut_166 : decode cX6_cut 166 = .ok (.iconst 1, 1) := by decide +kernel
theorem dX6_cut_167 : decode cX6_cut 167 = .ok (.goto 4, 3) := by decide +kernel
theorem dX6_cut_170 : decode cX6_cut 170 = .ok (.iconst 0, 1) := by decide +kernel
theorem dX6_cut_171 : decode cX6_cut 171 = .ok (.if_icmp .ne 6, 3) := by decide +kernel
theorem dX6_cut_174 : decode cX6_cut 174 = .ok (.goto 41, 3) := by decide +kernel
theorem dX6_cut_177 : decode cX6_cut 177 = .ok (.iload_n 3, 1) := by decide +kernel
theorem dX6_cut_178 : decode cX6_cut 178 = .ok (.ifCond .ne 9, 3) := by decide +kernel
theorem dX6_cut_181 : decode cX6_cut 181 = .ok (.iload 6, 2) := by decide +kernel
theorem dX6_cut_183 : decode cX6_cut 183 = .ok (.i2l, 1) := by decide +kernel
theorem dX6_cut_184 : decode cX6_cut 184 = .ok (.goto 30, 3) := by decide +kernel
theorem dX6_cut_187 : decode cX6_cut 187 = .ok (.lload 7, 2) := by decide +kernel
theorem dX6_cut_189 : decode cX6_cut 189 = .ok (.lconst 0, 1) := by decide +kernel
theorem dX6_cut_190 : decode cX6_cut 190 = .ok (.lcmp, 1) := by decide +kernel
theorem dX6_cut_191 : decode cX6_cut 191 = .ok (.ifCond .ne 10, 3) := by decide +kernel
theorem dX6_cut_194 : decode cX6_cut 194 = .ok (.iload_n 3, 1) := by decide +kernel
theorem dX6_cut_195 : decode cX6_cut 195 = .ok (.iconst 1, 1) := by decide +kernel
theorem dX6_cut_196 : decode cX6_cut 196 = .ok (.isub, 1) := by decide +kernel
theorem dX6_cut_197 : decode cX6_cut 197 = .ok (.i2l, 1) := by decide +kernel
theorem dX6_cut_198 : decode cX6_cut 198 = .ok (.goto 16, 3) := by decide +kernel
theorem dX6_cut_201 : decode cX6_cut 201 = .ok (.lload 7, 2) := by decide +kernel
theorem dX6_cut_203 : decode cX6_cut 203 = .ok (.lload 7, 2) := by decide +kernel
theorem dX6_cut_205 : decode cX6_cut 205 = .ok (.lload 9, 2) := by decide +kernel
theorem dX6_cut_207 : decode cX6_cut 207 = .ok (.lsub, 1) := by decide +kernel
theorem dX6_cut_208 : decode cX6_cut 208 = .ok (.iload_n 3, 1) := by decide +kernel
theorem dX6_cut_209 : decode cX6_cut 209 = .ok (.iconst 1, 1) := by decide +kernel
theorem dX6_cut_210 : decode cX6_cut 210 = .ok (.isub, 1) := by decide +kernel
theorem dX6_cut_211 : decode cX6_cut 211 = .ok (.invokestatic 204, 3) := by decide +kernel
theorem dX6_cut_214 : decode cX6_cut 214 = .ok (.lreturn, 1) := by decide +kernel
theorem dX6_cut_215 : decode cX6_cut 215 = .ok (.iinc 6 1, 3) := by decide +kernel
theorem dX6_cut_218 : decode cX6_cut 218 = .ok (.goto (-122), 3) := by decide +kernel
theorem dX6_cut_221 : decode cX6_cut 221 = .ok (.ldc2_w 291, 3) := by decide +kernel
theorem dX6_cut_224 : decode cX6_cut 224 = .ok (.lreturn, 1) := by decide +kernel
theorem dX6_row_0 : decode cX6_row 0 = .ok (.iload_n 1, 1) := by decide +kernel
theorem dX6_row_1 : decode cX6_row 1 = .ok (.ifCond .ge 10, 3) := by decide +kernel
theorem dX6_row_4 : decode cX6_row 4 = .ok (.aload_n 0, 1) := by decide +kernel
theorem dX6_row_5 : decode cX6_row 5 = .ok (.bipush (-4), 2) := by decide +kernel
theorem dX6_row_7 : decode cX6_row 7 = .ok (.invokevirtual 13, 3) := by decide +kernel
theorem dX6_row_10 : decode cX6_row 10 = .ok (.ireturn, 1) := by decide +kernel
theorem dX6_row_11 : decode cX6_row 11 = .ok (.iload_n 1, 1) := by decide +kernel
theorem dX6_row_12 : decode cX6_row 12 = .ok (.bipush 99, 2) := by decide +kernel
theorem dX6_row_14 : decode cX6_row 14 = .ok (.if_icmp .gt 12, 3) := by decide +kernel
theorem dX6_row_17 : decode cX6_row 17 = .ok (.aload_n 0, 1) := by decide +kernel
theorem dX6_row_18 : decode cX6_row 18 = .ok (.getfield 293, 3) := by decide +kernel
theorem dX6_row_21 : decode cX6_row 21 = .ok (.bipush 9, 2) := by decide +kernel
theorem dX6_row_23 : decode cX6_row 23 = .ok (.if_icmp .ne 10, 3) := by decide +kernel
theorem dX6_row_26 : decode cX6_row 26 = .ok (.aload_n 0, 1) := by decide +kernel
theorem dX6_row_27 : decode cX6_row 27 = .ok (.bipush (-6), 2) := by decide +kernel
theorem dX6_row_29 : decode cX6_row 29 = .ok (.invokevirtual 13, 3) := by decide +kernel
theorem dX6_row_32 : decode cX6_row 32 = .ok (.ireturn, 1) := by decide +kernel
theorem dX6_row_33 : decode cX6_row 33 = .ok (.aload_n 0, 1) := by decide +kernel
theorem dX6_row_34 : decode cX6_row 34 = .ok (.getfield 48, 3) := by decide +kernel
theorem dX6_row_37 : decode cX6_row 37 = .ok (.aload_n 0, 1) := by decide +kernel
theorem dX6_row_38 : decode cX6_row 38 = .ok (.getfield 293, 3) := by decide +kernel
theorem dX6_row_41 : decode cX6_row 41 = .ok (.iload_n 1, 1) := by decide +kernel
theorem dX6_row_42 : decode cX6_row 42 = .ok (.iastore, 1) := by decide +kernel
theorem dX6_row_43 : decode cX6_row 43 = .ok (.aload_n 0, 1) := by decide +kernel
theorem dX6_row_44 : decode cX6_row 44 = .ok (.dup, 1) := by decide +kernel
theorem dX6_row_45 : decode cX6_row 45 = .ok (.getfield 293, 3) := by decide +kernel
theorem dX6_row_48 : decode cX6_row 48 = .ok (.iconst 1, 1) := by decide +kernel
theorem dX6_row_49 : decode cX6_row 49 = .ok (.iadd, 1) := by decide +kernel
theorem dX6_row_50 : decode cX6_row 50 = .ok (.putfield 293, 3) := by decide +kernel
theorem dX6_row_53 : decode cX6_row 53 = .ok (.aload_n 0, 1) := by decide +kernel
theorem dX6_row_54 : decode cX6_row 54 = .ok (.getfield 293, 3) := by decide +kernel
theorem dX6_row_57 : decode cX6_row 57 = .ok (.ireturn, 1) := by decide +kernel
theorem dX6_clear_0 : decode cX6_clear 0 = .ok (.aload_n 0, 1) := by decide +kernel
theorem dX6_clear_1 : decode cX6_clear 1 = .ok (.getfield 293, 3) := by decide +kernel
theorem dX6_clear_4 : decode cX6_clear 4 = .ok (.istore_n 1, 1) := by decide +kernel
theorem dX6_clear_5 : decode cX6_clear 5 = .ok (.aload_n 0, 1) := by decide +kernel
theorem dX6_clear_6 : decode cX6_clear 6 = .ok (.iconst 0, 1) := by decide +kernel
theorem dX6_clear_7 : decode cX6_clear 7 = .ok (.putfield 293, 3) := by decide +kernel
theorem dX6_clear_10 : decode cX6_clear 10 = .ok (.iload_n 1, 1) := by decide +kernel
theorem dX6_clear_11 : decode cX6_clear 11 = .ok (.ireturn, 1) := by decide +kernel
theorem dX6_isRow_0 : decode cX6_isRow 0 = .ok (.iconst 0, 1) := by decide +kernel
theorem dX6_isRow_1 : decode cX6_isRow 1 = .ok (.istore_n 3, 1) := by decide +kernel
theorem dX6_isRow_2 : decode cX6_isRow 2 = .ok (.iload_n 3, 1) := by decide +kernel
theorem dX6_isRow_3 : decode cX6_isRow 3 = .ok (.aload_n 0, 1) := by decide +kernel
theorem dX6_isRow_4 : decode cX6_isRow 4 = .ok (.getfield 293, 3) := by decide +kernel
theorem dX6_isRow_7 : decode cX6_isRow 7 = .ok (.if_icmp .ge 39, 3) := by decide +kernel
theorem dX6_isRow_10 : decode cX6_isRow 10 = .ok (.aload_n 0, 1) := by decide +kernel
theorem dX6_isRow_11 : decode cX6_isRow 11 = .ok (.getfield 48, 3) := by decide +kernel
theorem dX6_isRow_14 : decode cX6_isRow 14 = .ok (.iload_n 3, 1) := by decide +kernel
theorem dX6_isRow_15 : decode cX6_isRow 15 = .ok (.iaload, 1) := by decide +kernel
theorem dX6_isRow_16 : decode cX6_isRow 16 = .ok (.iload_n 2, 1) := by decide +kernel
theorem dX6_isRow_17 : decode cX6_isRow 17 = .ok (.iload_n 3, 1) := by decide +kernel
theorem dX6_isRow_18 : decode cX6_isRow 18 = .ok (.iconst 1, 1) := by decide +kernel
theorem dX6_isRow_19 : decode cX6_isRow 19 = .ok (.iadd, 1) := by decide +kernel
theorem dX6_isRow_20 : decode cX6_isRow 20 = .ok (.aload_n 0, 1) := by decide +kernel
theorem dX6_isRow_21 : decode cX6_isRow 21 = .ok (.iload_n 1, 1) := by decide +kernel
theorem dX6_isRow_22 : decode cX6_isRow 22 = .ok (.iconst 2, 1) := by decide +kernel
theorem dX6_isRow_23 : decode cX6_isRow 23 = .ok (.invokevirtual 80, 3) := by decide +kernel
theorem dX6_isRow_26 : decode cX6_isRow 26 = .ok (.aload_n 0, 1) := by decide +kernel
theorem dX6_isRow_27 : decode cX6_isRow 27 = .ok (.iload_n 1, 1) := by decide +kernel
theorem dX6_isRow_28 : decode cX6_isRow 28 = .ok (.iconst 3, 1) := by decide +kernel
theorem dX6_isRow_29 : decode cX6_isRow 29 = .ok (.invokevirtual 80, 3) := by decide +kernel
theorem dX6_isRow_32 : decode cX6_isRow 32 = .ok (.invokestatic 83, 3) := by decide +kernel
theorem dX6_isRow_35 : decode cX6_isRow 35 = .ok (.if_icmp .eq 5, 3) := by decide +kernel
theorem dX6_isRow_38 : decode cX6_isRow 38 = .ok (.iconst 0, 1) := by decide +kernel
theorem dX6_isRow_39 : decode cX6_isRow 39 = .ok (.ireturn, 1) := by decide +kernel
theorem dX6_isRow_40 : decode cX6_isRow 40 = .ok (.iinc 3 1, 3) := by decide +kernel
theorem dX6_isRow_43 : decode cX6_isRow 43 = .ok (.goto (-41), 3) := by decide +kernel
theorem dX6_isRow_46 : decode cX6_isRow 46 = .ok (.iconst 1, 1) := by decide +kernel
theorem dX6_isRow_47 : decode cX6_isRow 47 = .ok (.ireturn, 1) := by decide +kernel
theorem dX6_whatIs_0 : decode cX6_whatIs 0 = .ok (.aload_n 0, 1) := by decide +kernel
theorem dX6_whatIs_1 : decode cX6_whatIs 1 = .ok (.iload_n 1, 1) := by decide +kernel
theorem dX6_whatIs_2 : decode cX6_whatIs 2 = .ok (.invokevirtual 106, 3) := by decide +kernel
theorem dX6_whatIs_5 : decode cX6_whatIs 5 = .ok (.ifCond .ne 9, 3) := by decide +kernel
theorem dX6_whatIs_8 : decode cX6_whatIs 8 = .ok (.aload_n 0, 1) := by decide +kernel
theorem dX6_whatIs_9 : decode cX6_whatIs 9 = .ok (.iconst (-1), 1) := by decide +kernel
theorem dX6_whatIs_10 : decode cX6_whatIs 10 = .ok (.invokevirtual 13, 3) := by decide +kernel
theorem dX6_whatIs_13 : decode cX6_whatIs 13 = .ok (.ireturn, 1) := by decide +kernel
theorem dX6_whatIs_14 : decode cX6_whatIs 14 = .ok (.iload_n 2, 1) := by decide +kernel
theorem dX6_whatIs_15 : decode cX6_whatIs 15 = .ok (.i2l, 1) := by decide +kernel
theorem dX6_whatIs_16 : decode cX6_whatIs 16 = .ok (.lconst 0, 1) := by decide +kernel
theorem dX6_whatIs_17 : decode cX6_whatIs 17 = .ok (.lconst 1, 1) := by decide +kernel
theorem dX6_whatIs_18 : decode cX6_whatIs 18 = .ok (.invokestatic 67, 3) := by decide +kernel
theorem dX6_whatIs_21 : decode cX6_whatIs 21 = .ok (.ifCond .ne 10, 3) := by decide +kernel
theorem dX6_whatIs_24 : decode cX6_whatIs 24 = .ok (.aload_n 0, 1) := by decide +kernel
theorem dX6_whatIs_25 : decode cX6_whatIs 25 = .ok (.bipush (-2), 2) := by decide +kernel
theorem dX6_whatIs_27 : decode cX6_whatIs 27 = .ok (.invokevirtual 13, 3) := by decide +kernel
theorem dX6_whatIs_30 : decode cX6_whatIs 30 = .ok (.ireturn, 1) := by decide +kernel
theorem dX6_whatIs_31 : decode cX6_whatIs 31 = .ok (.iconst 0, 1) := by decide +kernel
theorem dX6_whatIs_32 : decode cX6_whatIs 32 = .ok (.istore_n 3, 1) := by decide +kernel
theorem dX6_whatIs_33 : decode cX6_whatIs 33 = .ok (.iconst 0, 1) := by decide +kernel
theorem dX6_whatIs_34 : decode cX6_whatIs 34 = .ok (.istore 4, 2) := by decide +kernel
theorem dX6_whatIs_36 : decode cX6_whatIs 36 = .ok (.iload 4, 2) := by decide +kernel
theorem dX6_whatIs_38 : decode cX6_whatIs 38 = .ok (.iload_n 2, 1) := by decide +kernel
theorem dX6_whatIs_39 : decode cX6_whatIs 39 = .ok (.ifCond .ne 8, 3) := by decide +kernel
theorem dX6_whatIs_42 : decode cX6_whatIs 42 = .ok (.bipush 6, 2) := by decide +kernel
theorem dX6_whatIs_44 : decode cX6_whatIs 44 = .ok (.goto 5, 3) := by decide +kernel
theorem dX6_whatIs_47 : decode cX6_whatIs 47 = .ok (.bipush 10, 2) := by decide +kernel
theorem dX6_whatIs_49 : decode cX6_whatIs 49 = .ok (.if_icmp .ge 43, 3) := by decide +kernel
theorem dX6_whatIs_52 : decode cX6_whatIs 52 = .ok (.iload_n 3, 1) := by decide +kernel
theorem dX6_whatIs_53 : decode cX6_whatIs 53 = .ok (.aload_n 0, 1) := by decide +kernel
theorem dX6_whatIs_54 : decode cX6_whatIs 54 = .ok (.iload_n 1, 1) := by decide +kernel
theorem dX6_whatIs_55 : decode cX6_whatIs 55 = .ok (.iload_n 2, 1) := by decide +kernel
theorem dX6_whatIs_56 : decode cX6_whatIs 56 = .ok (.ifCond .ne 8, 3) := by decide +kernel
theorem dX6_whatIs_59 : decode cX6_whatIs 59 = .ok (.iload 4, 2) := by decide +kernel
theorem dX6_whatIs_61 : decode cX6_whatIs 61 = .ok (.goto 9, 3) := by decide +kernel
theorem dX6_whatIs_64 : decode cX6_whatIs 64 = .ok (.aload_n 0, 1) := by decide +kernel
theorem dX6_whatIs_65 : decode cX6_whatIs 65 = .ok (.iload_n 1, 1) := by decide +kernel
theorem dX6_whatIs_66 : decode cX6_whatIs 66 = .ok (.iconst 0, 1) := by decide +kernel
theorem dX6_whatIs_67 : decode cX6_whatIs 67 = .ok (.invokevirtual 80, 3) := by decide +kernel
theorem dX6_whatIs_70 : decode cX6_whatIs 70 = .ok (.invokevirtual 296, 3) := by decide +kernel
theorem dX6_whatIs_73 : decode cX6_whatIs 73 = .ok (.ifCond .eq 10, 3) := by decide +kernel
theorem dX6_whatIs_76 : decode cX6_whatIs 76 = .ok (.iconst 1, 1) := by decide +kernel
theorem dX6_whatIs_77 : decode cX6_whatIs 77 = .ok (.iload 4, 2) := by decide +kernel
theorem dX6_whatIs_79 : decode cX6_whatIs 79 = .ok (.ishl, 1) := by decide +kernel
theorem dX6_whatIs_80 : decode cX6_whatIs 80 = .ok (.goto 4, 3) := by decide +kernel
theorem dX6_whatIs_83 : decode cX6_whatIs 83 = .ok (.iconst 0, 1) := by decide +kernel
theorem dX6_whatIs_84 : decode cX6_whatIs 84 = .ok (.ior, 1) := by decide +kernel
theorem dX6_whatIs_85 : decode cX6_whatIs 85 = .ok (.istore_n 3, 1) := by decide +kernel
theorem dX6_whatIs_86 : decode cX6_whatIs 86 = .ok (.iinc 4 1, 3) := by decide +kernel
theorem dX6_whatIs_89 : decode cX6_whatIs 89 = .ok (.goto (-53), 3) := by decide +kernel
theorem dX6_whatIs_92 : decode cX6_whatIs 92 = .ok (.iload_n 3, 1) := by decide +kernel
theorem dX6_whatIs_93 : decode cX6_whatIs 93 = .ok (.ireturn, 1) := by decide +kernel
theorem dX6_draw_0 : decode cX6_draw 0 = .ok (.aload_n 0, 1) := by decide +kernel
theorem dX6_draw_1 : decode cX6_draw 1 = .ok (.aload_n 0, 1) := by decide +kernel
theorem dX6_draw_2 : decode cX6_draw 2 = .ok (.getfield 299, 3) := by decide +kernel
theorem dX6_draw_5 : decode cX6_draw 5 = .ok (.ldc_w 302, 3) := by decide +kernel
theorem dX6_draw_8 : decode cX6_draw 8 = .ok (.imul, 1) := by decide +kernel
theorem dX6_draw_9 : decode cX6_draw 9 = .ok (.ldc_w 303, 3) := by decide +kernel
theorem dX6_draw_12 : decode cX6_draw 12 = .ok (.iadd, 1) := by decide +kernel
theorem dX6_draw_13 : decode cX6_draw 13 = .ok (.putfield 299, 3) := by decide +kernel
theorem dX6_draw_16 : decode cX6_draw 16 = .ok (.aload_n 0, 1) := by decide +kernel
theorem dX6_draw_17 : decode cX6_draw 17 = .ok (.getfield 299, 3) := by decide +kernel
theorem dX6_draw_20 : decode cX6_draw 20 = .ok (.ldc_w 304, 3) := by decide +kernel
theorem dX6_draw_23 : decode cX6_draw 23 = .ok (.iand, 1) := by decide +kernel
theorem dX6_draw_24 : decode cX6_draw 24 = .ok (.sipush 256, 3) := by decide +kernel
theorem dX6_draw_27 : decode cX6_draw 27 = .ok (.idiv, 1) := by decide +kernel
theorem dX6_draw_28 : decode cX6_draw 28 = .ok (.iload_n 1, 1) := by decide +kernel
theorem dX6_draw_29 : decode cX6_draw 29 = .ok (.irem, 1) := by decide +kernel
theorem dX6_draw_30 : decode cX6_draw 30 = .ok (.ireturn, 1) := by decide +kernel
theorem dX6_lots_0 : decode cX6_lots 0 = .ok (.iload_n 1, 1) := by decide +kernel
theorem dX6_lots_1 : decode cX6_lots 1 = .ok (.iconst 1, 1) := by decide +kernel
theorem dX6_lots_2 : decode cX6_lots 2 = .ok (.if_icmp .ge 10, 3) := by decide +kernel
theorem dX6_lots_5 : decode cX6_lots 5 = .ok (.aload_n 0, 1) := by decide +kernel
theorem dX6_lots_6 : decode cX6_lots 6 = .ok (.bipush (-4), 2) := by decide +kernel
theorem dX6_lots_8 : decode cX6_lots 8 = .ok (.invokevirtual 13, 3) := by decide +kernel
theorem dX6_lots_11 : decode cX6_lots 11 = .ok (.ireturn, 1) := by decide +kernel
theorem dX6_lots_12 : decode cX6_lots 12 = .ok (.iload_n 1, 1) := by decide +kernel
theorem dX6_lots_13 : decode cX6_lots 13 = .ok (.bipush 20, 2) := by decide +kernel
theorem dX6_lots_15 : decode cX6_lots 15 = .ok (.if_icmp .le 10, 3) := by decide +kernel
theorem dX6_lots_18 : decode cX6_lots 18 = .ok (.aload_n 0, 1) := by decide +kernel
theorem dX6_lots_19 : decode cX6_lots 19 = .ok (.bipush (-6), 2) := by decide +kernel
theorem dX6_lots_21 : decode cX6_lots 21 = .ok (.invokevirtual 13, 3) := by decide +kernel
theorem dX6_lots_24 : decode cX6_lots 24 = .ok (.ireturn, 1) := by decide +kernel
theorem dX6_lots_25 : decode cX6_lots 25 = .ok (.iload_n 3, 1) := by decide +kernel
theorem dX6_lots_26 : decode cX6_lots 26 = .ok (.i2l, 1) := by decide +kernel
theorem dX6_lots_27 : decode cX6_lots 27 = .ok (.lconst 0, 1) := by decide +kernel
theorem dX6_lots_28 : decode cX6_lots 28 = .ok (.lconst 1, 1) := by decide +kernel
theorem dX6_lots_29 : decode cX6_lots 29 = .ok (.invokestatic 67, 3) := by decide +kernel
theorem dX6_lots_32 : decode cX6_lots 32 = .ok (.ifCond .ne 10, 3) := by decide +kernel
theorem dX6_lots_35 : decode cX6_lots 35 = .ok (.aload_n 0, 1) := by decide +kernel
theorem dX6_lots_36 : decode cX6_lots 36 = .ok (.bipush (-2), 2) := by decide +kernel
theorem dX6_lots_38 : decode cX6_lots 38 = .ok (.invokevirtual 13, 3) := by decide +kernel
theorem dX6_lots_41 : decode cX6_lots 41 = .ok (.ireturn, 1) := by decide +kernel
theorem dX6_lots_42 : decode cX6_lots 42 = .ok (.aload_n 0, 1) := by decide +kernel
theorem dX6_lots_43 : decode cX6_lots 43 = .ok (.iload_n 2, 1) := by decide +kernel
theorem dX6_lots_44 : decode cX6_lots 44 = .ok (.putfield 299, 3) := by decide +kernel
theorem dX6_lots_47 : decode cX6_lots 47 = .ok (.aload_n 0, 1) := by decide +kernel
theorem dX6_lots_48 : decode cX6_lots 48 = .ok (.getfield 23, 3) := by decide +kernel
theorem dX6_lots_51 : decode cX6_lots 51 = .ok (.iconst 0, 1) := by decide +kernel
theorem dX6_lots_52 : decode cX6_lots 52 = .ok (.aload_n 0, 1) := by decide +kernel
theorem dX6_lots_53 : decode cX6_lots 53 = .ok (.getfield 38, 3) := by decide +kernel
theorem dX6_lots_56 : decode cX6_lots 56 = .ok (.iconst 0, 1) := by decide +kernel
theorem dX6_lots_57 : decode cX6_lots 57 = .ok (.invokestatic 99, 3) := by decide +kernel
theorem dX6_lots_60 : decode cX6_lots 60 = .ok (.iconst 0, 1) := by decide +kernel
theorem dX6_lots_61 : decode cX6_lots 61 = .ok (.istore 4, 2) := by decide +kernel
theorem dX6_lots_63 : decode cX6_lots 63 = .ok (.iconst 0, 1) := by decide +kernel
theorem dX6_lots_64 : decode cX6_lots 64 = .ok (.istore 5, 2) := by decide +kernel
theorem dX6_lots_66 : decode cX6_lots 66 = .ok (.iconst 0, 1) := by decide +kernel
theorem dX6_lots_67 : decode cX6_lots 67 = .ok (.istore 6, 2) := by decide +kernel
theorem dX6_lots_69 : decode cX6_lots 69 = .ok (.iload 6, 2) := by decide +kernel
theorem dX6_lots_71 : decode cX6_lots 71 = .ok (.iload_n 1, 1) := by decide +kernel
theorem dX6_lots_72 : decode cX6_lots 72 = .ok (.if_icmp .ge 81, 3) := by decide +kernel
theorem dX6_lots_75 : decode cX6_lots 75 = .ok (.iconst 0, 1) := by decide +kernel
theorem dX6_lots_76 : decode cX6_lots 76 = .ok (.istore 7, 2) := by decide +kernel
theorem dX6_lots_78 : decode cX6_lots 78 = .ok (.iload 7, 2) := by decide +kernel
theorem dX6_lots_80 : decode cX6_lots 80 = .ok (.aload_n 0, 1) := by decide +kernel
theorem dX6_lots_81 : decode cX6_lots 81 = .ok (.invokevirtual 63, 3) := by decide +kernel
theorem dX6_lots_84 : decode cX6_lots 84 = .ok (.if_icmp .ge 28, 3) := by decide +kernel
theorem dX6_lots_87 : decode cX6_lots 87 = .ok (.aload_n 0, 1) := by decide +kernel
theorem dX6_lots_88 : decode cX6_lots 88 = .ok (.getfield 23, 3) := by decide +kernel
theorem dX6_lots_91 : decode cX6_lots 91 = .ok (.iconst 5, 1) := by decide +kernel
theorem dX6_lots_92 : decode cX6_lots 92 = .ok (.iload 7, 2) := by decide +kernel
theorem dX6_lots_94 : decode cX6_lots 94 = .ok (.imul, 1) := by decide +kernel
theorem dX6_lots_95 : decode cX6_lots 95 = .ok (.iconst 4, 1) := by decide +kernel
theorem dX6_lots_96 : decode cX6_lots 96 = .ok (.iadd, 1) := by decide +kernel
theorem dX6_lots_97 : decode cX6_lots 97 = .ok (.aload_n 0, 1) := by decide +kernel
theorem dX6_lots_98 : decode cX6_lots 98 = .ok (.bipush 9, 2) := by decide +kernel
theorem dX6_lots_100 : decode cX6_lots 100 = .ok (.invokevirtual 305, 3) := by decide +kernel
theorem dX6_lots_103 : decode cX6_lots 103 = .ok (.iconst 1, 1) := by decide +kernel
theorem dX6_lots_104 : decode cX6_lots 104 = .ok (.iadd, 1) := by decide +kernel
theorem dX6_lots_105 : decode cX6_lots 105 = .ok (.iastore, 1) := by decide +kernel
theorem dX6_lots_106 : decode cX6_lots 106 = .ok (.iinc 7 1, 3) := by decide +kernel
theorem dX6_lots_109 : decode cX6_lots 109 = .ok (.goto (-31), 3) := by decide +kernel
theorem dX6_lots_112 : decode cX6_lots 112 = .ok (.iload 4, 2) := by decide +kernel
theorem dX6_lots_114 : decode cX6_lots 114 = .ok (.aload_n 0, 1) := by decide +kernel
theorem dX6_lots_115 : decode cX6_lots 115 = .ok (.invokevirtual 200, 3) := by decide +kernel
theorem dX6_lots_118 : decode cX6_lots 118 = .ok (.ifCond .eq 14, 3) := by decide +kernel
theorem dX6_lots_121 : decode cX6_lots 121 = .ok (.aload_n 0, 1) := by decide +kernel
theorem dX6_lots_122 : decode cX6_lots 122 = .ok (.invokevirtual 254, 3) := by decide +kernel
theorem dX6_lots_125 : decode cX6_lots 125 = .ok (.ifCond .ne 7, 3) := by decide +kernel
theorem dX6_lots_128 : decode cX6_lots 128 = .ok (.iconst 1, 1) := by decide +kernel
theorem dX6_lots_129 : decode cX6_lots 129 = .ok (.goto 4, 3) := by decide +kernel
theorem dX6_lots_132 : decode cX6_lots 132 = .ok (.iconst 0, 1) := by decide +kernel
theorem dX6_lots_133 : decode cX6_lots 133 = .ok (.iadd, 1) := by decide +kernel
theorem dX6_lots_134 : decode cX6_lots 134 = .ok (.istore 4, 2) := by decide +kernel
theorem dX6_lots_136 : decode cX6_lots 136 = .ok (.iload 5, 2) := by decide +kernel
theorem dX6_lots_138 : decode cX6_lots 138 = .ok (.aload_n 0, 1) := by decide +kernel
theorem dX6_lots_139 : decode cX6_lots 139 = .ok (.bipush (-9), 2) := by decide +kernel
theorem dX6_lots_141 : decode cX6_lots 141 = .ok (.invokevirtual 279, 3) := by decide +kernel
theorem dX6_lots_144 : decode cX6_lots 144 = .ok (.iadd, 1) := by decide +kernel
theorem dX6_lots_145 : decode cX6_lots 145 = .ok (.istore 5, 2) := by decide +kernel
theorem dX6_lots_147 : decode cX6_lots 147 = .ok (.iinc 6 1, 3) := by decide +kernel
theorem dX6_lots_150 : decode cX6_lots 150 = .ok (.goto (-81), 3) := by decide +kernel
theorem dX6_lots_153 : decode cX6_lots 153 = .ok (.aload_n 0, 1) := by decide +kernel
theorem dX6_lots_154 : decode cX6_lots 154 = .ok (.getfield 38, 3) := by decide +kernel
theorem dX6_lots_157 : decode cX6_lots 157 = .ok (.iconst 0, 1) := by decide +kernel
theorem dX6_lots_158 : decode cX6_lots 158 = .ok (.aload_n 0, 1) := by decide +kernel
theorem dX6_lots_159 : decode cX6_lots 159 = .ok (.getfield 23, 3) := by decide +kernel
theorem dX6_lots_162 : decode cX6_lots 162 = .ok (.iconst 0, 1) := by decide +kernel
theorem dX6_lots_163 : decode cX6_lots 163 = .ok (.invokestatic 99, 3) := by decide +kernel
theorem dX6_lots_166 : decode cX6_lots 166 = .ok (.iload_n 3, 1) := by decide +kernel
theorem dX6_lots_167 : decode cX6_lots 167 = .ok (.ifCond .ne 8, 3) := by decide +kernel
theorem dX6_lots_170 : decode cX6_lots 170 = .ok (.iload 4, 2) := by decide +kernel
theorem dX6_lots_172 : decode cX6_lots 172 = .ok (.goto 5, 3) := by decide +kernel
theorem dX6_lots_175 : decode cX6_lots 175 = .ok (.iload 5, 2) := by decide +kernel
theorem dX6_lots_177 : decode cX6_lots 177 = .ok (.ireturn, 1) := by decide +kernel
theorem dX6_isList_0 : decode cX6_isList 0 = .ok (.iload_n 0, 1) := by decide +kernel
theorem dX6_isList_1 : decode cX6_isList 1 = .ok (.i2l, 1) := by decide +kernel
theorem dX6_isList_2 : decode cX6_isList 2 = .ok (.lconst 0, 1) := by decide +kernel
theorem dX6_isList_3 : decode cX6_isList 3 = .ok (.ldc2_w 218, 3) := by decide +kernel
theorem dX6_isList_6 : decode cX6_isList 6 = .ok (.invokestatic 67, 3) := by decide +kernel
theorem dX6_isList_9 : decode cX6_isList 9 = .ok (.ireturn, 1) := by decide +kernel
theorem dX6_list_0 : decode cX6_list 0 = .ok (.iload_n 1, 1) := by decide +kernel
theorem dX6_list_1 : decode cX6_list 1 = .ok (.invokestatic 308, 3) := by decide +kernel
theorem dX6_list_4 : decode cX6_list 4 = .ok (.ifCond .ne 9, 3) := by decide +kernel
theorem dX6_list_7 : decode cX6_list 7 = .ok (.aload_n 0, 1) := by decide +kernel
theorem dX6_list_8 : decode cX6_list 8 = .ok (.iconst (-1), 1) := by decide +kernel
theorem dX6_list_9 : decode cX6_list 9 = .ok (.invokevirtual 13, 3) := by decide +kernel
theorem dX6_list_12 : decode cX6_list 12 = .ok (.ireturn, 1) := by decide +kernel
theorem dX6_list_13 : decode cX6_list 13 = .ok (.iload_n 2, 1) := by decide +kernel
theorem dX6_list_14 : decode cX6_list 14 = .ok (.i2l, 1) := by decide +kernel
theorem dX6_list_15 : decode cX6_list 15 = .ok (.lconst 0, 1) := by decide +kernel
theorem dX6_list_16 : decode cX6_list 16 = .ok (.lconst 1, 1) := by decide +kernel
theorem dX6_list_17 : decode cX6_list 17 = .ok (.invokestatic 67, 3) := by decide +kernel
theorem dX6_list_20 : decode cX6_list 20 = .ok (.ifCond .ne 10, 3) := by decide +kernel
theorem dX6_list_23 : decode cX6_list 23 = .ok (.aload_n 0, 1) := by decide +kernel
theorem dX6_list_24 : decode cX6_list 24 = .ok (.bipush (-2), 2) := by decide +kernel
theorem dX6_list_26 : decode cX6_list 26 = .ok (.invokevirtual 13, 3) := by decide +kernel
theorem dX6_list_29 : decode cX6_list 29 = .ok (.ireturn, 1) := by decide +kernel
theorem dX6_list_30 : decode cX6_list 30 = .ok (.iload_n 3, 1) := by decide +kernel
theorem dX6_list_31 : decode cX6_list 31 = .ok (.bipush 20, 2) := by decide +kernel
theorem dX6_list_33 : decode cX6_list 33 = .ok (.if_icmp .le 10, 3) := by decide +kernel
theorem dX6_list_36 : decode cX6_list 36 = .ok (.aload_n 0, 1) := by decide +kernel
theorem dX6_list_37 : decode cX6_list 37 = .ok (.bipush (-6), 2) := by decide +kernel
theorem dX6_list_39 : decode cX6_list 39 = .ok (.invokevirtual 13, 3) := by decide +kernel
theorem dX6_list_42 : decode cX6_list 42 = .ok (.ireturn, 1) := by decide +kernel
theorem dX6_list_43 : decode cX6_list 43 = .ok (.iload_n 3, 1) := by decide +kernel
theorem dX6_list_44 : decode cX6_list 44 = .ok (.ifCond .ge 6, 3) := by decide +kernel
theorem dX6_list_47 : decode cX6_list 47 = .ok (.bipush (-14), 2) := by decide +kernel
theorem dX6_list_49 : decode cX6_list 49 = .ok (.ireturn, 1) := by decide +kernel
theorem dX6_list_50 : decode cX6_list 50 = .ok (.aload_n 0, 1) := by decide +kernel
theorem dX6_list_51 : decode cX6_list 51 = .ok (.getfield 51, 3) := by decide +kernel
theorem dX6_list_54 : decode cX6_list 54 = .ok (.iload_n 1, 1) := by decide +kernel
theorem dX6_list_55 : decode cX6_list 55 = .ok (.iload_n 2, 1) := by decide +kernel
theorem dX6_list_56 : decode cX6_list 56 = .ok (.iastore, 1) := by decide +kernel
theorem dX6_list_57 : decode cX6_list 57 = .ok (.aload_n 0, 1) := by decide +kernel
theorem dX6_list_58 : decode cX6_list 58 = .ok (.getfield 54, 3) := by decide +kernel
theorem dX6_list_61 : decode cX6_list 61 = .ok (.iload_n 1, 1) := by decide +kernel
theorem dX6_list_62 : decode cX6_list 62 = .ok (.iload_n 3, 1) := by decide +kernel
theorem dX6_list_63 : decode cX6_list 63 = .ok (.iastore, 1) := by decide +kernel
theorem dX6_list_64 : decode cX6_list 64 = .ok (.iconst 0, 1) := by decide +kernel
theorem dX6_list_65 : decode cX6_list 65 = .ok (.istore 4, 2) := by decide +kernel
theorem dX6_list_67 : decode cX6_list 67 = .ok (.iload 4, 2) := by decide +kernel
theorem dX6_list_69 : decode cX6_list 69 = .ok (.bipush 20, 2) := by decide +kernel
theorem dX6_list_71 : decode cX6_list 71 = .ok (.if_icmp .ge 22, 3) := by decide +kernel
theorem dX6_list_74 : decode cX6_list 74 = .ok (.aload_n 0, 1) := by decide +kernel
theorem dX6_list_75 : decode cX6_list 75 = .ok (.getfield 57, 3) := by decide +kernel
theorem dX6_list_78 : decode cX6_list 78 = .ok (.bipush 20, 2) := by decide +kernel
theorem dX6_list_80 : decode cX6_list 80 = .ok (.iload_n 1, 1) := by decide +kernel
theorem dX6_list_81 : decode cX6_list 81 = .ok (.imul, 1) := by decide +kernel
theorem dX6_list_82 : decode cX6_list 82 = .ok (.iload 4, 2) := by decide +kernel
theorem dX6_list_84 : decode cX6_list 84 = .ok (.iadd, 1) := by decide +kernel
theorem dX6_list_85 : decode cX6_list 85 = .ok (.lconst 0, 1) := by decide +kernel
theorem dX6_list_86 : decode cX6_list 86 = .ok (.lastore, 1) := by decide +kernel
theorem dX6_list_87 : decode cX6_list 87 = .ok (.iinc 4 1, 3) := by decide +kernel
theorem dX6_list_90 : decode cX6_list 90 = .ok (.goto (-23), 3) := by decide +kernel
theorem dX6_list_93 : decode cX6_list 93 = .ok (.iconst 1, 1) := by decide +kernel
theorem dX6_list_94 : decode cX6_list 94 = .ok (.ireturn, 1) := by decide +kernel
theorem dX6_lies_0 : decode cX6_lies 0 = .ok (.aload_n 0, 1) := by decide +kernel
theorem dX6_lies_1 : decode cX6_lies 1 = .ok (.getfield 57, 3) := by decide +kernel
theorem dX6_lies_4 : decode cX6_lies 4 = .ok (.bipush 20, 2) := by decide +kernel
theorem dX6_lies_6 : decode cX6_lies 6 = .ok (.iload_n 1, 1) := by decide +kernel
theorem dX6_lies_7 : decode cX6_lies 7 = .ok (.imul, 1) := by decide +kernel
theorem dX6_lies_8 : decode cX6_lies 8 = .ok (.iload_n 2, 1) := by decide +kernel
theorem dX6_lies_9 : decode cX6_lies 9 = .ok (.iadd, 1) := by decide +kernel
theorem dX6_lies_10 : decode cX6_lies 10 = .ok (.aload_n 0, 1) := by decide +kernel
theorem dX6_lies_11 : decode cX6_lies 11 = .ok (.getfield 51, 3) := by decide +kernel
theorem dX6_lies_14 : decode cX6_lies 14 = .ok (.iload_n 1, 1) := by decide +kernel
theorem dX6_lies_15 : decode cX6_lies 15 = .ok (.iaload, 1) := by decide +kernel
theorem dX6_lies_16 : decode cX6_lies 16 = .ok (.iconst 1, 1) := by decide +kernel
theorem dX6_lies_17 : decode cX6_lies 17 = .ok (.if_icmp .ne 9, 3) := by decide +kernel
theorem dX6_lies_20 : decode cX6_lies 20 = .ok (.lload_n 3, 1) := by decide +kernel
theorem dX6_lies_21 : decode cX6_lies 21 = .ok (.l2i, 1) := by decide +kernel
theorem dX6_lies_22 : decode cX6_lies 22 = .ok (.i2l, 1) := by decide +kernel
theorem dX6_lies_23 : decode cX6_lies 23 = .ok (.goto 4, 3) := by decide +kernel
theorem dX6_lies_26 : decode cX6_lies 26 = .ok (.lload_n 3, 1) := by decide +kernel
theorem dX6_lies_27 : decode cX6_lies 27 = .ok (.lastore, 1) := by decide +kernel
theorem dX6_lies_28 : decode cX6_lies 28 = .ok (.return_, 1) := by decide +kernel
theorem dX6_put_0 : decode cX6_put 0 = .ok (.iload_n 1, 1) := by decide +kernel
theorem dX6_put_1 : decode cX6_put 1 = .ok (.invokestatic 308, 3) := by decide +kernel
theorem dX6_put_4 : decode cX6_put 4 = .ok (.ifCond .ne 9, 3) := by decide +kernel
theorem dX6_put_7 : decode cX6_put 7 = .ok (.aload_n 0, 1) := by decide +kernel
theorem dX6_put_8 : decode cX6_put 8 = .ok (.iconst (-1), 1) := by decide +kernel
theorem dX6_put_9 : decode cX6_put 9 = .ok (.invokevirtual 13, 3) := by decide +kernel
theorem dX6_put_12 : decode cX6_put 12 = .ok (.ireturn, 1) := by decide +kernel
theorem dX6_put_13 : decode cX6_put 13 = .ok (.aload_n 0, 1) := by decide +kernel
theorem dX6_put_14 : decode cX6_put 14 = .ok (.getfield 51, 3) := by decide +kernel
theorem dX6_put_17 : decode cX6_put 17 = .ok (.iload_n 1, 1) := by decide +kernel
theorem dX6_put_18 : decode cX6_put 18 = .ok (.iaload, 1) := by decide +kernel
theorem dX6_put_19 : decode cX6_put 19 = .ok (.ifCond .ge 6, 3) := by decide +kernel
theorem dX6_put_22 : decode cX6_put 22 = .ok (.bipush (-11), 2) := by decide +kernel
theorem dX6_put_24 : decode cX6_put 24 = .ok (.ireturn, 1) := by decide +kernel
theorem dX6_put_25 : decode cX6_put 25 = .ok (.iload_n 2, 1) := by decide +kernel
theorem dX6_put_26 : decode cX6_put 26 = .ok (.i2l, 1) := by decide +kernel
theorem dX6_put_27 : decode cX6_put 27 = .ok (.lconst 0, 1) := by decide +kernel
theorem dX6_put_28 : decode cX6_put 28 = .ok (.aload_n 0, 1) := by decide +kernel
theorem dX6_put_29 : decode cX6_put 29 = .ok (.getfield 54, 3) := by decide +kernel
theorem dX6_put_32 : decode cX6_put 32 = .ok (.iload_n 1, 1) := by decide +kernel
theorem dX6_put_33 : decode cX6_put 33 = .ok (.iaload, 1) := by decide +kernel
theorem dX6_put_34 : decode cX6_put 34 = .ok (.iconst 1, 1) := by decide +kernel
theorem dX6_put_35 : decode cX6_put 35 = .ok (.isub, 1) := by decide +kernel
theorem dX6_put_36 : decode cX6_put 36 = .ok (.i2l, 1) := by decide +kernel
theorem dX6_put_37 : decode cX6_put 37 = .ok (.invokestatic 67, 3) := by decide +kernel
theorem dX6_put_40 : decode cX6_put 40 = .ok (.ifCond .ne 6, 3) := by decide +kernel
theorem dX6_put_43 : decode cX6_put 43 = .ok (.bipush (-13), 2) := by decide +kernel
theorem dX6_put_45 : decode cX6_put 45 = .ok (.ireturn, 1) := by decide +kernel
theorem dX6_put_46 : decode cX6_put 46 = .ok (.aload_n 0, 1) := by decide +kernel
theorem dX6_put_47 : decode cX6_put 47 = .ok (.iload_n 1, 1) := by decide +kernel
theorem dX6_put_48 : decode cX6_put 48 = .ok (.iload_n 2, 1) := by decide +kernel
theorem dX6_put_49 : decode cX6_put 49 = .ok (.lload_n 3, 1) := by decide +kernel
theorem dX6_put_50 : decode cX6_put 50 = .ok (.invokevirtual 311, 3) := by decide +kernel
theorem dX6_put_53 : decode cX6_put 53 = .ok (.iconst 1, 1) := by decide +kernel
theorem dX6_put_54 : decode cX6_put 54 = .ok (.ireturn, 1) := by decide +kernel
theorem dX6_look_0 : decode cX6_look 0 = .ok (.iload_n 1, 1) := by decide +kernel
theorem dX6_look_1 : decode cX6_look 1 = .ok (.invokestatic 308, 3) := by decide +kernel
theorem dX6_look_4 : decode cX6_look 4 = .ok (.ifCond .ne 9, 3) := by decide +kernel
theorem dX6_look_7 : decode cX6_look 7 = .ok (.aload_n 0, 1) := by decide +kernel
theorem dX6_look_8 : decode cX6_look 8 = .ok (.iconst (-1), 1) := by decide +kernel
theorem dX6_look_9 : decode cX6_look 9 = .ok (.invokevirtual 177, 3) := by decide +kernel
theorem dX6_look_12 : decode cX6_look 12 = .ok (.lreturn, 1) := by decide +kernel
theorem dX6_look_13 : decode cX6_look 13 = .ok (.aload_n 0, 1) := by decide +kernel
theorem dX6_look_14 : decode cX6_look 14 = .ok (.getfield 51, 3) := by decide +kernel
theorem dX6_look_17 : decode cX6_look 17 = .ok (.iload_n 1, 1) := by decide +kernel
theorem dX6_look_18 : decode cX6_look 18 = .ok (.iaload, 1) := by decide +kernel
theorem dX6_look_19 : decode cX6_look 19 = .ok (.ifCond .ge 7, 3) := by decide +kernel
theorem dX6_look_22 : decode cX6_look 22 = .ok (.ldc2_w 315, 3) := by decide +kernel
theorem dX6_look_25 : decode cX6_look 25 = .ok (.lreturn, 1) := by decide +kernel
theorem dX6_look_26 : decode cX6_look 26 = .ok (.iload_n 2, 1) := by decide +kernel
theorem dX6_look_27 : decode cX6_look 27 = .ok (.i2l, 1) := by decide +kernel
theorem dX6_look_28 : decode cX6_look 28 = .ok (.lconst 0, 1) := by decide +kernel
theorem dX6_look_29 : decode cX6_look 29 = .ok (.aload_n 0, 1) := by decide +kernel
theorem dX6_look_30 : decode cX6_look 30 = .ok (.getfield 54, 3) := by decide +kernel
theorem dX6_look_33 : decode cX6_look 33 = .ok (.iload_n 1, 1) := by decide +kernel
theorem dX6_look_34 : decode cX6_look 34 = .ok (.iaload, 1) := by decide +kernel
theorem dX6_look_35 : decode cX6_look 35 = .ok (.iconst 1, 1) := by decide +kernel
theorem dX6_look_36 : decode cX6_look 36 = .ok (.isub, 1) := by decide +kernel
theorem dX6_look_37 : decode cX6_look 37 = .ok (.i2l, 1) := by decide +kernel
theorem dX6_look_38 : decode cX6_look 38 = .ok (.invokestatic 67, 3) := by decide +kernel
theorem dX6_look_41 : decode cX6_look 41 = .ok (.ifCond .eq 17, 3) := by decide +kernel
theorem dX6_look_44 : decode cX6_look 44 = .ok (.aload_n 0, 1) := by decide +kernel
theorem dX6_look_45 : decode cX6_look 45 = .ok (.getfield 57, 3) := by decide +kernel
theorem dX6_look_48 : decode cX6_look 48 = .ok (.bipush 20, 2) := by decide +kernel
theorem dX6_look_50 : decode cX6_look 50 = .ok (.iload_n 1, 1) := by decide +kernel
theorem dX6_look_51 : decode cX6_look 51 = .ok (.imul, 1) := by decide +kernel
theorem dX6_look_52 : decode cX6_look 52 = .ok (.iload_n 2, 1) := by decide +kernel
theorem dX6_look_53 : decode cX6_look 53 = .ok (.iadd, 1) := by decide +kernel
theorem dX6_look_54 : decode cX6_look 54 = .ok (.laload, 1) := by decide +kernel
theorem dX6_look_55 : decode cX6_look 55 = .ok (.goto 6, 3) := by decide +kernel
theorem dX6_look_58 : decode cX6_look 58 = .ok (.ldc2_w 317, 3) := by decide +kernel
theorem dX6_look_61 : decode cX6_look 61 = .ok (.lreturn, 1) := by decide +kernel
theorem dX6_copy_0 : decode cX6_copy 0 = .ok (.iload_n 1, 1) := by decide +kernel
theorem dX6_copy_1 : decode cX6_copy 1 = .ok (.invokestatic 308, 3) := by decide +kernel
theorem dX6_copy_4 : decode cX6_copy 4 = .ok (.ifCond .eq 10, 3) := by decide +kernel
theorem dX6_copy_7 : decode cX6_copy 7 = .ok (.iload_n 3, 1) := by decide +kernel
theorem dX6_copy_8 : decode cX6_copy 8 = .ok (.invokestatic 308, 3) := by decide +kernel
theorem dX6_copy_11 : decode cX6_copy 11 = .ok (.ifCond .ne 9, 3) := by decide +kernel
theorem dX6_copy_14 : decode cX6_copy 14 = .ok (.aload_n 0, 1) := by decide +kernel
theorem dX6_copy_15 : decode cX6_copy 15 = .ok (.iconst (-1), 1) := by decide +kernel
theorem dX6_copy_16 : decode cX6_copy 16 = .ok (.invokevirtual 13, 3) := by decide +kernel
theorem dX6_copy_19 : decode cX6_copy 19 = .ok (.ireturn, 1) := by decide +kernel
theorem dX6_copy_20 : decode cX6_copy 20 = .ok (.aload_n 0, 1) := by decide +kernel
theorem dX6_copy_21 : decode cX6_copy 21 = .ok (.getfield 51, 3) := by decide +kernel
theorem dX6_copy_24 : decode cX6_copy 24 = .ok (.iload_n 1, 1) := by decide +kernel
theorem dX6_copy_25 : decode cX6_copy 25 = .ok (.iaload, 1) := by decide +kernel
theorem dX6_copy_26 : decode cX6_copy 26 = .ok (.ifCond .lt 12, 3) := by decide +kernel
theorem dX6_copy_29 : decode cX6_copy 29 = .ok (.aload_n 0, 1) := by decide +kernel
theorem dX6_copy_30 : decode cX6_copy 30 = .ok (.getfield 51, 3) := by decide +kernel
theorem dX6_copy_33 : decode cX6_copy 33 = .ok (.iload_n 3, 1) := by decide +kernel
theorem dX6_copy_34 : decode cX6_copy 34 = .ok (.iaload, 1) := by decide +kernel
theorem dX6_copy_35 : decode cX6_copy 35 = .ok (.ifCond .ge 6, 3) := by decide +kernel
theorem dX6_copy_38 : decode cX6_copy 38 = .ok (.bipush (-11), 2) := by decide +kernel
theorem dX6_copy_40 : decode cX6_copy 40 = .ok (.ireturn, 1) := by decide +kernel
theorem dX6_copy_41 : decode cX6_copy 41 = .ok (.aload_n 0, 1) := by decide +kernel
theorem dX6_copy_42 : decode cX6_copy 42 = .ok (.getfield 51, 3) := by decide +kernel
theorem dX6_copy_45 : decode cX6_copy 45 = .ok (.iload_n 1, 1) := by decide +kernel
theorem dX6_copy_46 : decode cX6_copy 46 = .ok (.iaload, 1) := by decide +kernel
theorem dX6_copy_47 : decode cX6_copy 47 = .ok (.aload_n 0, 1) := by decide +kernel
theorem dX6_copy_48 : decode cX6_copy 48 = .ok (.getfield 51, 3) := by decide +kernel
theorem dX6_copy_51 : decode cX6_copy 51 = .ok (.iload_n 3, 1) := by decide +kernel
theorem dX6_copy_52 : decode cX6_copy 52 = .ok (.iaload, 1) := by decide +kernel
theorem dX6_copy_53 : decode cX6_copy 53 = .ok (.if_icmp .eq 6, 3) := by decide +kernel
theorem dX6_copy_56 : decode cX6_copy 56 = .ok (.bipush (-12), 2) := by decide +kernel
theorem dX6_copy_58 : decode cX6_copy 58 = .ok (.ireturn, 1) := by decide +kernel
theorem dX6_copy_59 : decode cX6_copy 59 = .ok (.iload 5, 2) := by decide +kernel
theorem dX6_copy_61 : decode cX6_copy 61 = .ok (.ifCond .lt 39, 3) := by decide +kernel
theorem dX6_copy_64 : decode cX6_copy 64 = .ok (.iload_n 2, 1) := by decide +kernel
theorem dX6_copy_65 : decode cX6_copy 65 = .ok (.ifCond .lt 35, 3) := by decide +kernel
theorem dX6_copy_68 : decode cX6_copy 68 = .ok (.iload 4, 2) := by decide +kernel
theorem dX6_copy_70 : decode cX6_copy 70 = .ok (.ifCond .lt 30, 3) := by decide +kernel
theorem dX6_copy_73 : decode cX6_copy 73 = .ok (.iload_n 2, 1) := by decide +kernel
theorem dX6_copy_74 : decode cX6_copy 74 = .ok (.aload_n 0, 1) := by decide +kernel
theorem dX6_copy_75 : decode cX6_copy 75 = .ok (.getfield 54, 3) := by decide +kernel
theorem dX6_copy_78 : decode cX6_copy 78 = .ok (.iload_n 1, 1) := by decide +kernel
theorem dX6_copy_79 : decode cX6_copy 79 = .ok (.iaload, 1) := by decide +kernel
theorem dX6_copy_80 : decode cX6_copy 80 = .ok (.iload 5, 2) := by decide +kernel
theorem dX6_copy_82 : decode cX6_copy 82 = .ok (.isub, 1) := by decide +kernel
theorem dX6_copy_83 : decode cX6_copy 83 = .ok (.if_icmp .gt 17, 3) := by decide +kernel
theorem dX6_copy_86 : decode cX6_copy 86 = .ok (.iload 4, 2) := by decide +kernel
theorem dX6_copy_88 : decode cX6_copy 88 = .ok (.aload_n 0, 1) := by decide +kernel
theorem dX6_copy_89 : decode cX6_copy 89 = .ok (.getfield 54, 3) := by decide +kernel
theorem dX6_copy_92 : decode cX6_copy 92 = .ok (.iload_n 3, 1) := by decide +kernel
theorem dX6_copy_93 : decode cX6_copy 93 = .ok (.iaload, 1) := by decide +kernel
theorem dX6_copy_94 : decode cX6_copy 94 = .ok (.iload 5, 2) := by decide +kernel
theorem dX6_copy_96 : decode cX6_copy 96 = .ok (.isub, 1) := by decide +kernel
theorem dX6_copy_97 : decode cX6_copy 97 = .ok (.if_icmp .le 6, 3) := by decide +kernel
theorem dX6_copy_100 : decode cX6_copy 100 = .ok (.bipush (-13), 2) := by decide +kernel
theorem dX6_copy_102 : decode cX6_copy 102 = .ok (.ireturn, 1) := by decide +kernel
theorem dX6_copy_103 : decode cX6_copy 103 = .ok (.iload_n 1, 1) := by decide +kernel
theorem dX6_copy_104 : decode cX6_copy 104 = .ok (.iload_n 3, 1) := by decide +kernel
theorem dX6_copy_105 : decode cX6_copy 105 = .ok (.if_icmp .ne 13, 3) := by decide +kernel
theorem dX6_copy_108 : decode cX6_copy 108 = .ok (.iload_n 2, 1) := by decide +kernel
theorem dX6_copy_109 : decode cX6_copy 109 = .ok (.iload 4, 2) := by decide +kernel
theorem dX6_copy_111 : decode cX6_copy 111 = .ok (.if_icmp .ge 7, 3) := by decide +kernel
theorem dX6_copy_114 : decode cX6_copy 114 = .ok (.iconst 1, 1) := by decide +kernel
theorem dX6_copy_115 : decode cX6_copy 115 = .ok (.goto 4, 3) := by decide +kernel
theorem dX6_copy_118 : decode cX6_copy 118 = .ok (.iconst 0, 1) := by decide +kernel
theorem dX6_copy_119 : decode cX6_copy 119 = .ok (.istore 6, 2) := by decide +kernel
theorem dX6_copy_121 : decode cX6_copy 121 = .ok (.iconst 0, 1) := by decide +kernel
theorem dX6_copy_122 : decode cX6_copy 122 = .ok (.istore 7, 2) := by decide +kernel
theorem dX6_copy_124 : decode cX6_copy 124 = .ok (.iload 7, 2) := by decide +kernel
theorem dX6_copy_126 : decode cX6_copy 126 = .ok (.iload 5, 2) := by decide +kernel
theorem dX6_copy_128 : decode cX6_copy 128 = .ok (.if_icmp .ge 57, 3) := by decide +kernel
theorem dX6_copy_131 : decode cX6_copy 131 = .ok (.iload 6, 2) := by decide +kernel
theorem dX6_copy_133 : decode cX6_copy 133 = .ok (.ifCond .eq 13, 3) := by decide +kernel
theorem dX6_copy_136 : decode cX6_copy 136 = .ok (.iload 5, 2) := by decide +kernel
theorem dX6_copy_138 : decode cX6_copy 138 = .ok (.iconst 1, 1) := by decide +kernel
theorem dX6_copy_139 : decode cX6_copy 139 = .ok (.isub, 1) := by decide +kernel
theorem dX6_copy_140 : decode cX6_copy 140 = .ok (.iload 7, 2) := by decide +kernel
theorem dX6_copy_142 : decode cX6_copy 142 = .ok (.isub, 1) := by decide +kernel
theorem dX6_copy_143 : decode cX6_copy 143 = .ok (.goto 5, 3) := by decide +kernel
theorem dX6_copy_146 : decode cX6_copy 146 = .ok (.iload 7, 2) := by decide +kernel
theorem dX6_copy_148 : decode cX6_copy 148 = .ok (.istore 8, 2) := by decide +kernel
theorem dX6_copy_150 : decode cX6_copy 150 = .ok (.aload_n 0, 1) := by decide +kernel
theorem dX6_copy_151 : decode cX6_copy 151 = .ok (.getfield 57, 3) := by decide +kernel
theorem dX6_copy_154 : decode cX6_copy 154 = .ok (.bipush 20, 2) := by decide +kernel
theorem dX6_copy_156 : decode cX6_copy 156 = .ok (.iload_n 3, 1) := by decide +kernel
theorem dX6_copy_157 : decode cX6_copy 157 = .ok (.imul, 1) := by decide +kernel
theorem dX6_copy_158 : decode cX6_copy 158 = .ok (.iload 4, 2) := by decide +kernel
theorem dX6_copy_160 : decode cX6_copy 160 = .ok (.iadd, 1) := by decide +kernel
theorem dX6_copy_161 : decode cX6_copy 161 = .ok (.iload 8, 2) := by decide +kernel
theorem dX6_copy_163 : decode cX6_copy 163 = .ok (.iadd, 1) := by decide +kernel
theorem dX6_copy_164 : decode cX6_copy 164 = .ok (.aload_n 0, 1) := by decide +kernel
theorem dX6_copy_165 : decode cX6_copy 165 = .ok (.getfield 57, 3) := by decide +kernel
theorem dX6_copy_168 : decode cX6_copy 168 = .ok (.bipush 20, 2) := by decide +kernel
theorem dX6_copy_170 : decode cX6_copy 170 = .ok (.iload_n 1, 1) := by decide +kernel
theorem dX6_copy_171 : decode cX6_copy 171 = .ok (.imul, 1) := by decide +kernel
theorem dX6_copy_172 : decode cX6_copy 172 = .ok (.iload_n 2, 1) := by decide +kernel
theorem dX6_copy_173 : decode cX6_copy 173 = .ok (.iadd, 1) := by decide +kernel
theorem dX6_copy_174 : decode cX6_copy 174 = .ok (.iload 8, 2) := by decide +kernel
theorem dX6_copy_176 : decode cX6_copy 176 = .ok (.iadd, 1) := by decide +kernel
theorem dX6_copy_177 : decode cX6_copy 177 = .ok (.laload, 1) := by decide +kernel
theorem dX6_copy_178 : decode cX6_copy 178 = .ok (.lastore, 1) := by decide +kernel
theorem dX6_copy_179 : decode cX6_copy 179 = .ok (.iinc 7 1, 3) := by decide +kernel
theorem dX6_copy_182 : decode cX6_copy 182 = .ok (.goto (-58), 3) := by decide +kernel
theorem dX6_copy_185 : decode cX6_copy 185 = .ok (.iload 5, 2) := by decide +kernel
theorem dX6_copy_187 : decode cX6_copy 187 = .ok (.ireturn, 1) := by decide +kernel
theorem dX6_lays_0 : decode cX6_lays 0 = .ok (.iload_n 1, 1) := by decide +kernel
theorem dX6_lays_1 : decode cX6_lays 1 = .ok (.invokestatic 308, 3) := by decide +kernel
theorem dX6_lays_4 : decode cX6_lays 4 = .ok (.ifCond .ne 9, 3) := by decide +kernel
theorem dX6_lays_7 : decode cX6_lays 7 = .ok (.aload_n 0, 1) := by decide +kernel
theorem dX6_lays_8 : decode cX6_lays 8 = .ok (.iconst (-1), 1) := by decide +kernel
theorem dX6_lays_9 : decode cX6_lays 9 = .ok (.invokevirtual 13, 3) := by decide +kernel
theorem dX6_lays_12 : decode cX6_lays 12 = .ok (.ireturn, 1) := by decide +kernel
theorem dX6_lays_13 : decode cX6_lays 13 = .ok (.aload_n 0, 1) := by decide +kernel
theorem dX6_lays_14 : decode cX6_lays 14 = .ok (.invokevirtual 200, 3) := by decide +kernel
theorem dX6_lays_17 : decode cX6_lays 17 = .ok (.ifCond .ne 10, 3) := by decide +kernel
theorem dX6_lays_20 : decode cX6_lays 20 = .ok (.aload_n 0, 1) := by decide +kernel
theorem dX6_lays_21 : decode cX6_lays 21 = .ok (.bipush (-3), 2) := by decide +kernel
theorem dX6_lays_23 : decode cX6_lays 23 = .ok (.invokevirtual 13, 3) := by decide +kernel
theorem dX6_lays_26 : decode cX6_lays 26 = .ok (.ireturn, 1) := by decide +kernel
theorem dX6_lays_27 : decode cX6_lays 27 = .ok (.aload_n 0, 1) := by decide +kernel
theorem dX6_lays_28 : decode cX6_lays 28 = .ok (.getfield 51, 3) := by decide +kernel
theorem dX6_lays_31 : decode cX6_lays 31 = .ok (.iload_n 1, 1) := by decide +kernel
theorem dX6_lays_32 : decode cX6_lays 32 = .ok (.iaload, 1) := by decide +kernel
theorem dX6_lays_33 : decode cX6_lays 33 = .ok (.ifCond .ge 6, 3) := by decide +kernel
theorem dX6_lays_36 : decode cX6_lays 36 = .ok (.bipush (-11), 2) := by decide +kernel
theorem dX6_lays_38 : decode cX6_lays 38 = .ok (.ireturn, 1) := by decide +kernel
theorem dX6_lays_39 : decode cX6_lays 39 = .ok (.iconst 0, 1) := by decide +kernel
theorem dX6_lays_40 : decode cX6_lays 40 = .ok (.istore_n 3, 1) := by decide +kernel
theorem dX6_lays_41 : decode cX6_lays 41 = .ok (.iload_n 3, 1) := by decide +kernel
theorem dX6_lays_42 : decode cX6_lays 42 = .ok (.iconst 2, 1) := by decide +kernel
theorem dX6_lays_43 : decode cX6_lays 43 = .ok (.aload_n 0, 1) := by decide +kernel
theorem dX6_lays_44 : decode cX6_lays 44 = .ok (.invokevirtual 63, 3) := by decide +kernel
theorem dX6_lays_47 : decode cX6_lays 47 = .ok (.imul, 1) := by decide +kernel
theorem dX6_lays_48 : decode cX6_lays 48 = .ok (.if_icmp .ge 51, 3) := by decide +kernel
theorem dX6_lays_51 : decode cX6_lays 51 = .ok (.iload_n 2, 1) := by decide +kernel
theorem dX6_lays_52 : decode cX6_lays 52 = .ok (.i2l, 1) := by decide +kernel
theorem dX6_lays_53 : decode cX6_lays 53 = .ok (.iload_n 3, 1) := by decide +kernel
theorem dX6_lays_54 : decode cX6_lays 54 = .ok (.i2l, 1) := by decide +kernel
theorem dX6_lays_55 : decode cX6_lays 55 = .ok (.ladd, 1) := by decide +kernel
theorem dX6_lays_56 : decode cX6_lays 56 = .ok (.lstore 4, 2) := by decide +kernel
theorem dX6_lays_58 : decode cX6_lays 58 = .ok (.lload 4, 2) := by decide +kernel
theorem dX6_lays_60 : decode cX6_lays 60 = .ok (.lconst 0, 1) := by decide +kernel
theorem dX6_lays_61 : decode cX6_lays 61 = .ok (.aload_n 0, 1) := by decide +kernel
theorem dX6_lays_62 : decode cX6_lays 62 = .ok (.getfield 54, 3) := by decide +kernel
theorem dX6_lays_65 : decode cX6_lays 65 = .ok (.iload_n 1, 1) := by decide +kernel
theorem dX6_lays_66 : decode cX6_lays 66 = .ok (.iaload, 1) := by decide +kernel
theorem dX6_lays_67 : decode cX6_lays 67 = .ok (.iconst 1, 1) := by decide +kernel
theorem dX6_lays_68 : decode cX6_lays 68 = .ok (.isub, 1) := by decide +kernel
theorem dX6_lays_69 : decode cX6_lays 69 = .ok (.i2l, 1) := by decide +kernel
theorem dX6_lays_70 : decode cX6_lays 70 = .ok (.invokestatic 67, 3) := by decide +kernel
theorem dX6_lays_73 : decode cX6_lays 73 = .ok (.ifCond .ne 6, 3) := by decide +kernel
theorem dX6_lays_76 : decode cX6_lays 76 = .ok (.bipush (-13), 2) := by decide +kernel
theorem dX6_lays_78 : decode cX6_lays 78 = .ok (.ireturn, 1) := by decide +kernel
theorem dX6_lays_79 : decode cX6_lays 79 = .ok (.aload_n 0, 1) := by decide +kernel
theorem dX6_lays_80 : decode cX6_lays 80 = .ok (.iload_n 1, 1) := by decide +kernel
theorem dX6_lays_81 : decode cX6_lays 81 = .ok (.lload 4, 2) := by decide +kernel
theorem dX6_lays_83 : decode cX6_lays 83 = .ok (.l2i, 1) := by decide +kernel
theorem dX6_lays_84 : decode cX6_lays 84 = .ok (.aload_n 0, 1) := by decide +kernel
theorem dX6_lays_85 : decode cX6_lays 85 = .ok (.getfield 45, 3) := by decide +kernel
theorem dX6_lays_88 : decode cX6_lays 88 = .ok (.iload_n 3, 1) := by decide +kernel
theorem dX6_lays_89 : decode cX6_lays 89 = .ok (.laload, 1) := by decide +kernel
theorem dX6_lays_90 : decode cX6_lays 90 = .ok (.invokevirtual 311, 3) := by decide +kernel
theorem dX6_lays_93 : decode cX6_lays 93 = .ok (.iinc 3 1, 3) := by decide +kernel
theorem dX6_lays_96 : decode cX6_lays 96 = .ok (.goto (-55), 3) := by decide +kernel
theorem dX6_lays_99 : decode cX6_lays 99 = .ok (.aload_n 0, 1) := by decide +kernel
theorem dX6_lays_100 : decode cX6_lays 100 = .ok (.invokevirtual 63, 3) := by decide +kernel
theorem dX6_lays_103 : decode cX6_lays 103 = .ok (.ireturn, 1) := by decide +kernel
theorem dX6_judge_0 : decode cX6_judge 0 = .ok (.iload_n 1, 1) := by decide +kernel
theorem dX6_judge_1 : decode cX6_judge 1 = .ok (.invokestatic 308, 3) := by decide +kernel
theorem dX6_judge_4 : decode cX6_judge 4 = .ok (.ifCond .ne 9, 3) := by decide +kernel
theorem dX6_judge_7 : decode cX6_judge 7 = .ok (.aload_n 0, 1) := by decide +kernel
theorem dX6_judge_8 : decode cX6_judge 8 = .ok (.iconst (-1), 1) := by decide +kernel
theorem dX6_judge_9 : decode cX6_judge 9 = .ok (.invokevirtual 13, 3) := by decide +kernel
theorem dX6_judge_12 : decode cX6_judge 12 = .ok (.ireturn, 1) := by decide +kernel
theorem dX6_judge_13 : decode cX6_judge 13 = .ok (.aload_n 0, 1) := by decide +kernel
theorem dX6_judge_14 : decode cX6_judge 14 = .ok (.invokevirtual 200, 3) := by decide +kernel
theorem dX6_judge_17 : decode cX6_judge 17 = .ok (.ifCond .ne 10, 3) := by decide +kernel
theorem dX6_judge_20 : decode cX6_judge 20 = .ok (.aload_n 0, 1) := by decide +kernel
theorem dX6_judge_21 : decode cX6_judge 21 = .ok (.bipush (-3), 2) := by decide +kernel
theorem dX6_judge_23 : decode cX6_judge 23 = .ok (.invokevirtual 13, 3) := by decide +kernel
theorem dX6_judge_26 : decode cX6_judge 26 = .ok (.ireturn, 1) := by decide +kernel
theorem dX6_judge_27 : decode cX6_judge 27 = .ok (.aload_n 0, 1) := by decide +kernel
theorem dX6_judge_28 : decode cX6_judge 28 = .ok (.getfield 51, 3) := by decide +kernel
theorem dX6_judge_31 : decode cX6_judge 31 = .ok (.iload_n 1, 1) := by decide +kernel
theorem dX6_judge_32 : decode cX6_judge 32 = .ok (.iaload, 1) := by decide +kernel
theorem dX6_judge_33 : decode cX6_judge 33 = .ok (.ifCond .ge 6, 3) := by decide +kernel
theorem dX6_judge_36 : decode cX6_judge 36 = .ok (.bipush (-11), 2) := by decide +kernel
theorem dX6_judge_38 : decode cX6_judge 38 = .ok (.ireturn, 1) := by decide +kernel
theorem dX6_judge_39 : decode cX6_judge 39 = .ok (.iconst 0, 1) := by decide +kernel
theorem dX6_judge_40 : decode cX6_judge 40 = .ok (.istore_n 2, 1) := by decide +kernel
theorem dX6_judge_41 : decode cX6_judge 41 = .ok (.iload_n 2, 1) := by decide +kernel
theorem dX6_judge_42 : decode cX6_judge 42 = .ok (.iconst 2, 1) := by decide +kernel
theorem dX6_judge_43 : decode cX6_judge 43 = .ok (.aload_n 0, 1) := by decide +kernel
theorem dX6_judge_44 : decode cX6_judge 44 = .ok (.invokevirtual 63, 3) := by decide +kernel
theorem dX6_judge_47 : decode cX6_judge 47 = .ok (.imul, 1) := by decide +kernel
theorem dX6_judge_48 : decode cX6_judge 48 = .ok (.if_icmp .ge 51, 3) := by decide +kernel
theorem dX6_judge_51 : decode cX6_judge 51 = .ok (.iload_n 2, 1) := by decide +kernel
theorem dX6_judge_52 : decode cX6_judge 52 = .ok (.aload_n 0, 1) := by decide +kernel
theorem dX6_judge_53 : decode cX6_judge 53 = .ok (.getfield 54, 3) := by decide +kernel
theorem dX6_judge_56 : decode cX6_judge 56 = .ok (.iload_n 1, 1) := by decide +kernel
theorem dX6_judge_57 : decode cX6_judge 57 = .ok (.iaload, 1) := by decide +kernel
theorem dX6_judge_58 : decode cX6_judge 58 = .ok (.if_icmp .lt 10, 3) := by decide +kernel
theorem dX6_judge_61 : decode cX6_judge 61 = .ok (.bipush 100, 2) := by decide +kernel
theorem dX6_judge_63 : decode cX6_judge 63 = .ok (.iload_n 2, 1) := by decide +kernel
theorem dX6_judge_64 : decode cX6_judge 64 = .ok (.iconst 2, 1) := by decide +kernel
theorem dX6_judge_65 : decode cX6_judge 65 = .ok (.idiv, 1) := by decide +kernel
theorem dX6_judge_66 : decode cX6_judge 66 = .ok (.iadd, 1) := by decide +kernel
theorem dX6_judge_67 : decode cX6_judge 67 = .ok (.ireturn, 1) := by decide +kernel
theorem dX6_judge_68 : decode cX6_judge 68 = .ok (.aload_n 0, 1) := by decide +kernel
theorem dX6_judge_69 : decode cX6_judge 69 = .ok (.getfield 57, 3) := by decide +kernel
theorem dX6_judge_72 : decode cX6_judge 72 = .ok (.bipush 20, 2) := by decide +kernel
theorem dX6_judge_74 : decode cX6_judge 74 = .ok (.iload_n 1, 1) := by decide +kernel
theorem dX6_judge_75 : decode cX6_judge 75 = .ok (.imul, 1) := by decide +kernel
theorem dX6_judge_76 : decode cX6_judge 76 = .ok (.iload_n 2, 1) := by decide +kernel
theorem dX6_judge_77 : decode cX6_judge 77 = .ok (.iadd, 1) := by decide +kernel
theorem dX6_judge_78 : decode cX6_judge 78 = .ok (.laload, 1) := by decide +kernel
theorem dX6_judge_79 : decode cX6_judge 79 = .ok (.aload_n 0, 1) := by decide +kernel
theorem dX6_judge_80 : decode cX6_judge 80 = .ok (.getfield 45, 3) := by decide +kernel
theorem dX6_judge_83 : decode cX6_judge 83 = .ok (.iload_n 2, 1) := by decide +kernel
theorem dX6_judge_84 : decode cX6_judge 84 = .ok (.laload, 1) := by decide +kernel
theorem dX6_judge_85 : decode cX6_judge 85 = .ok (.lcmp, 1) := by decide +kernel
theorem dX6_judge_86 : decode cX6_judge 86 = .ok (.ifCond .eq 7, 3) := by decide +kernel
theorem dX6_judge_89 : decode cX6_judge 89 = .ok (.iload_n 2, 1) := by decide +kernel
theorem dX6_judge_90 : decode cX6_judge 90 = .ok (.iconst 2, 1) := by decide +kernel
theorem dX6_judge_91 : decode cX6_judge 91 = .ok (.idiv, 1) := by decide +kernel
theorem dX6_judge_92 : decode cX6_judge 92 = .ok (.ireturn, 1) := by decide +kernel
theorem dX6_judge_93 : decode cX6_judge 93 = .ok (.iinc 2 1, 3) := by decide +kernel
theorem dX6_judge_96 : decode cX6_judge 96 = .ok (.goto (-55), 3) := by decide +kernel
theorem dX6_judge_99 : decode cX6_judge 99 = .ok (.bipush (-9), 2) := by decide +kernel
theorem dX6_judge_101 : decode cX6_judge 101 = .ok (.ireturn, 1) := by decide +kernel
theorem dX6_image_0 : decode cX6_image 0 = .ok (.aload_n 0, 1) := by decide +kernel
theorem dX6_image_1 : decode cX6_image 1 = .ok (.getfield 23, 3) := by decide +kernel
theorem dX6_image_4 : decode cX6_image 4 = .ok (.iconst 0, 1) := by decide +kernel
theorem dX6_image_5 : decode cX6_image 5 = .ok (.aload_n 0, 1) := by decide +kernel
theorem dX6_image_6 : decode cX6_image 6 = .ok (.getfield 60, 3) := by decide +kernel
theorem dX6_image_9 : decode cX6_image 9 = .ok (.iconst 0, 1) := by decide +kernel
theorem dX6_image_10 : decode cX6_image 10 = .ok (.invokestatic 99, 3) := by decide +kernel
theorem dX6_image_13 : decode cX6_image 13 = .ok (.aload_n 0, 1) := by decide +kernel
theorem dX6_image_14 : decode cX6_image 14 = .ok (.iconst 1, 1) := by decide +kernel
theorem dX6_image_15 : decode cX6_image 15 = .ok (.putfield 319, 3) := by decide +kernel
theorem dX6_image_18 : decode cX6_image 18 = .ok (.aload_n 0, 1) := by decide +kernel
theorem dX6_image_19 : decode cX6_image 19 = .ok (.invokevirtual 63, 3) := by decide +kernel
theorem dX6_image_22 : decode cX6_image 22 = .ok (.ireturn, 1) := by decide +kernel
theorem dX6_on_0 : decode cX6_on 0 = .ok (.aload_n 0, 1) := by decide +kernel
theorem dX6_on_1 : decode cX6_on 1 = .ok (.getfield 319, 3) := by decide +kernel
theorem dX6_on_4 : decode cX6_on 4 = .ok (.ifCond .ne 10, 3) := by decide +kernel
theorem dX6_on_7 : decode cX6_on 7 = .ok (.aload_n 0, 1) := by decide +kernel
theorem dX6_on_8 : decode cX6_on 8 = .ok (.bipush (-3), 2) := by decide +kernel
theorem dX6_on_10 : decode cX6_on 10 = .ok (.invokevirtual 13, 3) := by decide +kernel
theorem dX6_on_13 : decode cX6_on 13 = .ok (.ireturn, 1) := by decide +kernel
theorem dX6_on_14 : decode cX6_on 14 = .ok (.aload_n 0, 1) := by decide +kernel
theorem dX6_on_15 : decode cX6_on 15 = .ok (.getfield 60, 3) := by decide +kernel
theorem dX6_on_18 : decode cX6_on 18 = .ok (.iconst 0, 1) := by decide +kernel
theorem dX6_on_19 : decode cX6_on 19 = .ok (.aload_n 0, 1) := by decide +kernel
theorem dX6_on_20 : decode cX6_on 20 = .ok (.getfield 23, 3) := by decide +kernel
theorem dX6_on_23 : decode cX6_on 23 = .ok (.iconst 0, 1) := by decide +kernel
theorem dX6_on_24 : decode cX6_on 24 = .ok (.invokestatic 99, 3) := by decide +kernel
theorem dX6_on_27 : decode cX6_on 27 = .ok (.aload_n 0, 1) := by decide +kernel
theorem dX6_on_28 : decode cX6_on 28 = .ok (.iconst 0, 1) := by decide +kernel
theorem dX6_on_29 : decode cX6_on 29 = .ok (.putfield 103, 3) := by decide +kernel
theorem dX6_on_32 : decode cX6_on 32 = .ok (.aload_n 0, 1) := by decide +kernel
theorem dX6_on_33 : decode cX6_on 33 = .ok (.invokevirtual 63, 3) := by decide +kernel
theorem dX6_on_36 : decode cX6_on 36 = .ok (.ireturn, 1) := by decide +kernel
theorem dX6_count_0 : decode cX6_count 0 = .ok (.iload_n 1, 1) := by decide +kernel
theorem dX6_count_1 : decode cX6_count 1 = .ok (.i2l, 1) := by decide +kernel
theorem dX6_count_2 : decode cX6_count 2 = .ok (.ldc2_w 322, 3) := by decide +kernel
theorem dX6_count_5 : decode cX6_count 5 = .ok (.ldc2_w 324, 3) := by decide +kernel
theorem dX6_count_8 : decode cX6_count 8 = .ok (.invokestatic 67, 3) := by decide +kernel
theorem dX6_count_11 : decode cX6_count 11 = .ok (.ifCond .eq 13, 3) := by decide +kernel
theorem dX6_count_14 : decode cX6_count 14 = .ok (.aload_n 0, 1) := by decide +kernel
theorem dX6_count_15 : decode cX6_count 15 = .ok (.getfield 7, 3) := by decide +kernel
theorem dX6_count_18 : decode cX6_count 18 = .ok (.iload_n 1, 1) := by decide +kernel
theorem dX6_count_19 : decode cX6_count 19 = .ok (.bipush 10, 2) := by decide +kernel
theorem dX6_count_21 : decode cX6_count 21 = .ok (.isub, 1) := by decide +kernel
theorem dX6_count_22 : decode cX6_count 22 = .ok (.iaload, 1) := by decide +kernel
theorem dX6_count_23 : decode cX6_count 23 = .ok (.ireturn, 1) := by decide +kernel
theorem dX6_count_24 : decode cX6_count 24 = .ok (.iload_n 1, 1) := by decide +kernel
theorem dX6_count_25 : decode cX6_count 25 = .ok (.tableswitch 60 0 4 #[35, 40, 45, 50, 55], 35) := by decide +kernel
theorem dX6_count_60 : decode cX6_count 60 = .ok (.aload_n 0, 1) := by decide +kernel
theorem dX6_count_61 : decode cX6_count 61 = .ok (.invokevirtual 63, 3) := by decide +kernel
theorem dX6_count_64 : decode cX6_count 64 = .ok (.ireturn, 1) := by decide +kernel
theorem dX6_count_65 : decode cX6_count 65 = .ok (.aload_n 0, 1) := by decide +kernel
theorem dX6_count_66 : decode cX6_count 66 = .ok (.invokevirtual 190, 3) := by decide +kernel
theorem dX6_count_69 : decode cX6_count 69 = .ok (.ireturn, 1) := by decide +kernel
theorem dX6_count_70 : decode cX6_count 70 = .ok (.aload_n 0, 1) := by decide +kernel
theorem dX6_count_71 : decode cX6_count 71 = .ok (.getfield 140, 3) := by decide +kernel
theorem dX6_count_74 : decode cX6_count 74 = .ok (.ireturn, 1) := by decide +kernel
theorem dX6_count_75 : decode cX6_count 75 = .ok (.aload_n 0, 1) := by decide +kernel
theorem dX6_count_76 : decode cX6_count 76 = .ok (.getfield 293, 3) := by decide +kernel
theorem dX6_count_79 : decode cX6_count 79 = .ok (.ireturn, 1) := by decide +kernel
theorem dX6_count_80 : decode cX6_count 80 = .ok (.aload_n 0, 1) := by decide +kernel
theorem dX6_count_81 : decode cX6_count 81 = .ok (.getfield 103, 3) := by decide +kernel
theorem dX6_count_84 : decode cX6_count 84 = .ok (.ireturn, 1) := by decide +kernel
theorem dX6_count_85 : decode cX6_count 85 = .ok (.bipush (-9), 2) := by decide +kernel
theorem dX6_count_87 : decode cX6_count 87 = .ok (.ireturn, 1) := by decide +kernel
