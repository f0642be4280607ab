theorem dX0_init_0 : decode cX0_init 0 = .ok (.aload_n 0, 1) := by decide +kernel
theorem dX0_init_1 : decode cX0_init 1 = .ok (.invokespecial 3, 3) := by decide +kernel
theorem dX0_init_4 : decode cX0_init 4 = .ok (.aload_n 0, 1) := by decide +kernel
theorem dX0_init_5 : decode cX0_init 5 = .ok (.bipush 8, 2) := by decide +kernel
theorem dX0_init_7 : decode cX0_init 7 = .ok (.newarray .long, 2) := by decide +kernel
theorem dX0_init_9 : decode cX0_init 9 = .ok (.putfield 9, 3) := by decide +kernel
theorem dX0_init_12 : decode cX0_init 12 = .ok (.aload_n 0, 1) := by decide +kernel
theorem dX0_init_13 : decode cX0_init 13 = .ok (.bipush 8, 2) := by decide +kernel
theorem dX0_init_15 : decode cX0_init 15 = .ok (.newarray .long, 2) := by decide +kernel
theorem dX0_init_17 : decode cX0_init 17 = .ok (.putfield 15, 3) := by decide +kernel
theorem dX0_init_20 : decode cX0_init 20 = .ok (.aload_n 0, 1) := by decide +kernel
theorem dX0_init_21 : decode cX0_init 21 = .ok (.bipush 8, 2) := by decide +kernel
theorem dX0_init_23 : decode cX0_init 23 = .ok (.newarray .long, 2) := by decide +kernel
theorem dX0_init_25 : decode cX0_init 25 = .ok (.putfield 18, 3) := by decide +kernel
theorem dX0_init_28 : decode cX0_init 28 = .ok (.aload_n 0, 1) := by decide +kernel
theorem dX0_init_29 : decode cX0_init 29 = .ok (.bipush 8, 2) := by decide +kernel
theorem dX0_init_31 : decode cX0_init 31 = .ok (.newarray .long, 2) := by decide +kernel
theorem dX0_init_33 : decode cX0_init 33 = .ok (.putfield 21, 3) := by decide +kernel
theorem dX0_init_36 : decode cX0_init 36 = .ok (.aload_n 0, 1) := by decide +kernel
theorem dX0_init_37 : decode cX0_init 37 = .ok (.iconst 0, 1) := by decide +kernel
theorem dX0_init_38 : decode cX0_init 38 = .ok (.putfield 24, 3) := by decide +kernel
theorem dX0_init_41 : decode cX0_init 41 = .ok (.aload_n 0, 1) := by decide +kernel
theorem dX0_init_42 : decode cX0_init 42 = .ok (.lconst 0, 1) := by decide +kernel
theorem dX0_init_43 : decode cX0_init 43 = .ok (.putfield 28, 3) := by decide +kernel
theorem dX0_init_46 : decode cX0_init 46 = .ok (.return_, 1) := by decide +kernel
theorem dX0_settle_0 : decode cX0_settle 0 = .ok (.aload_n 0, 1) := by decide +kernel
theorem dX0_settle_1 : decode cX0_settle 1 = .ok (.aload_n 1, 1) := by decide +kernel
theorem dX0_settle_2 : decode cX0_settle 2 = .ok (.getfield 32, 3) := by decide +kernel
theorem dX0_settle_5 : decode cX0_settle 5 = .ok (.putfield 24, 3) := by decide +kernel
theorem dX0_settle_8 : decode cX0_settle 8 = .ok (.aload_n 0, 1) := by decide +kernel
theorem dX0_settle_9 : decode cX0_settle 9 = .ok (.aload_n 1, 1) := by decide +kernel
theorem dX0_settle_10 : decode cX0_settle 10 = .ok (.invokevirtual 35, 3) := by decide +kernel
theorem dX0_settle_13 : decode cX0_settle 13 = .ok (.i2l, 1) := by decide +kernel
theorem dX0_settle_14 : decode cX0_settle 14 = .ok (.putfield 28, 3) := by decide +kernel
theorem dX0_settle_17 : decode cX0_settle 17 = .ok (.aload_n 1, 1) := by decide +kernel
theorem dX0_settle_18 : decode cX0_settle 18 = .ok (.aload_n 1, 1) := by decide +kernel
theorem dX0_settle_19 : decode cX0_settle 19 = .ok (.invokevirtual 39, 3) := by decide +kernel
theorem dX0_settle_22 : decode cX0_settle 22 = .ok (.invokevirtual 42, 3) := by decide +kernel
theorem dX0_settle_25 : decode cX0_settle 25 = .ok (.i2l, 1) := by decide +kernel
theorem dX0_settle_26 : decode cX0_settle 26 = .ok (.lstore_n 2, 1) := by decide +kernel
theorem dX0_settle_27 : decode cX0_settle 27 = .ok (.aload_n 1, 1) := by decide +kernel
theorem dX0_settle_28 : decode cX0_settle 28 = .ok (.aload_n 1, 1) := by decide +kernel
theorem dX0_settle_29 : decode cX0_settle 29 = .ok (.invokevirtual 39, 3) := by decide +kernel
theorem dX0_settle_32 : decode cX0_settle 32 = .ok (.invokevirtual 46, 3) := by decide +kernel
theorem dX0_settle_35 : decode cX0_settle 35 = .ok (.i2l, 1) := by decide +kernel
theorem dX0_settle_36 : decode cX0_settle 36 = .ok (.lstore 4, 2) := by decide +kernel
theorem dX0_settle_38 : decode cX0_settle 38 = .ok (.lconst 0, 1) := by decide +kernel
theorem dX0_settle_39 : decode cX0_settle 39 = .ok (.lstore 6, 2) := by decide +kernel
theorem dX0_settle_41 : decode cX0_settle 41 = .ok (.lconst 0, 1) := by decide +kernel
theorem dX0_settle_42 : decode cX0_settle 42 = .ok (.lstore 8, 2) := by decide +kernel
theorem dX0_settle_44 : decode cX0_settle 44 = .ok (.iconst 0, 1) := by decide +kernel
theorem dX0_settle_45 : decode cX0_settle 45 = .ok (.istore 10, 2) := by decide +kernel
theorem dX0_settle_47 : decode cX0_settle 47 = .ok (.iload 10, 2) := by decide +kernel
theorem dX0_settle_49 : decode cX0_settle 49 = .ok (.aload_n 0, 1) := by decide +kernel
theorem dX0_settle_50 : decode cX0_settle 50 = .ok (.getfield 24, 3) := by decide +kernel
theorem dX0_settle_53 : decode cX0_settle 53 = .ok (.if_icmp .ge 110, 3) := by decide +kernel
theorem dX0_settle_56 : decode cX0_settle 56 = .ok (.aload_n 0, 1) := by decide +kernel
theorem dX0_settle_57 : decode cX0_settle 57 = .ok (.getfield 18, 3) := by decide +kernel
theorem dX0_settle_60 : decode cX0_settle 60 = .ok (.iload 10, 2) := by decide +kernel
theorem dX0_settle_62 : decode cX0_settle 62 = .ok (.lload 6, 2) := by decide +kernel
theorem dX0_settle_64 : decode cX0_settle 64 = .ok (.lastore, 1) := by decide +kernel
theorem dX0_settle_65 : decode cX0_settle 65 = .ok (.aload_n 0, 1) := by decide +kernel
theorem dX0_settle_66 : decode cX0_settle 66 = .ok (.getfield 21, 3) := by decide +kernel
theorem dX0_settle_69 : decode cX0_settle 69 = .ok (.iload 10, 2) := by decide +kernel
theorem dX0_settle_71 : decode cX0_settle 71 = .ok (.lload 8, 2) := by decide +kernel
theorem dX0_settle_73 : decode cX0_settle 73 = .ok (.lastore, 1) := by decide +kernel
theorem dX0_settle_74 : decode cX0_settle 74 = .ok (.aload_n 0, 1) := by decide +kernel
theorem dX0_settle_75 : decode cX0_settle 75 = .ok (.getfield 9, 3) := by decide +kernel
theorem dX0_settle_78 : decode cX0_settle 78 = .ok (.iload 10, 2) := by decide +kernel
theorem dX0_settle_80 : decode cX0_settle 80 = .ok (.aload_n 1, 1) := by decide +kernel
theorem dX0_settle_81 : decode cX0_settle 81 = .ok (.iload 10, 2) := by decide +kernel
theorem dX0_settle_83 : decode cX0_settle 83 = .ok (.invokevirtual 49, 3) := by decide +kernel
theorem dX0_settle_86 : decode cX0_settle 86 = .ok (.i2l, 1) := by decide +kernel
theorem dX0_settle_87 : decode cX0_settle 87 = .ok (.aload_n 0, 1) := by decide +kernel
theorem dX0_settle_88 : decode cX0_settle 88 = .ok (.getfield 28, 3) := by decide +kernel
theorem dX0_settle_91 : decode cX0_settle 91 = .ok (.lmul, 1) := by decide +kernel
theorem dX0_settle_92 : decode cX0_settle 92 = .ok (.lload_n 2, 1) := by decide +kernel
theorem dX0_settle_93 : decode cX0_settle 93 = .ok (.aload_n 1, 1) := by decide +kernel
theorem dX0_settle_94 : decode cX0_settle 94 = .ok (.iload 10, 2) := by decide +kernel
theorem dX0_settle_96 : decode cX0_settle 96 = .ok (.invokevirtual 52, 3) := by decide +kernel
theorem dX0_settle_99 : decode cX0_settle 99 = .ok (.i2l, 1) := by decide +kernel
theorem dX0_settle_100 : decode cX0_settle 100 = .ok (.lmul, 1) := by decide +kernel
theorem dX0_settle_101 : decode cX0_settle 101 = .ok (.lsub, 1) := by decide +kernel
theorem dX0_settle_102 : decode cX0_settle 102 = .ok (.lastore, 1) := by decide +kernel
theorem dX0_settle_103 : decode cX0_settle 103 = .ok (.aload_n 0, 1) := by decide +kernel
theorem dX0_settle_104 : decode cX0_settle 104 = .ok (.getfield 15, 3) := by decide +kernel
theorem dX0_settle_107 : decode cX0_settle 107 = .ok (.iload 10, 2) := by decide +kernel
theorem dX0_settle_109 : decode cX0_settle 109 = .ok (.aload_n 1, 1) := by decide +kernel
theorem dX0_settle_110 : decode cX0_settle 110 = .ok (.iload 10, 2) := by decide +kernel
theorem dX0_settle_112 : decode cX0_settle 112 = .ok (.invokevirtual 55, 3) := by decide +kernel
theorem dX0_settle_115 : decode cX0_settle 115 = .ok (.i2l, 1) := by decide +kernel
theorem dX0_settle_116 : decode cX0_settle 116 = .ok (.aload_n 0, 1) := by decide +kernel
theorem dX0_settle_117 : decode cX0_settle 117 = .ok (.getfield 28, 3) := by decide +kernel
theorem dX0_settle_120 : decode cX0_settle 120 = .ok (.lmul, 1) := by decide +kernel
theorem dX0_settle_121 : decode cX0_settle 121 = .ok (.lload 4, 2) := by decide +kernel
theorem dX0_settle_123 : decode cX0_settle 123 = .ok (.aload_n 1, 1) := by decide +kernel
theorem dX0_settle_124 : decode cX0_settle 124 = .ok (.iload 10, 2) := by decide +kernel
theorem dX0_settle_126 : decode cX0_settle 126 = .ok (.invokevirtual 52, 3) := by decide +kernel
theorem dX0_settle_129 : decode cX0_settle 129 = .ok (.i2l, 1) := by decide +kernel
theorem dX0_settle_130 : decode cX0_settle 130 = .ok (.lmul, 1) := by decide +kernel
theorem dX0_settle_131 : decode cX0_settle 131 = .ok (.lsub, 1) := by decide +kernel
theorem dX0_settle_132 : decode cX0_settle 132 = .ok (.lastore, 1) := by decide +kernel
theorem dX0_settle_133 : decode cX0_settle 133 = .ok (.lload 6, 2) := by decide +kernel
theorem dX0_settle_135 : decode cX0_settle 135 = .ok (.aload_n 0, 1) := by decide +kernel
theorem dX0_settle_136 : decode cX0_settle 136 = .ok (.getfield 9, 3) := by decide +kernel
theorem dX0_settle_139 : decode cX0_settle 139 = .ok (.iload 10, 2) := by decide +kernel
theorem dX0_settle_141 : decode cX0_settle 141 = .ok (.laload, 1) := by decide +kernel
theorem dX0_settle_142 : decode cX0_settle 142 = .ok (.ladd, 1) := by decide +kernel
theorem dX0_settle_143 : decode cX0_settle 143 = .ok (.lstore 6, 2) := by decide +kernel
theorem dX0_settle_145 : decode cX0_settle 145 = .ok (.lload 8, 2) := by decide +kernel
theorem dX0_settle_147 : decode cX0_settle 147 = .ok (.aload_n 0, 1) := by decide +kernel
theorem dX0_settle_148 : decode cX0_settle 148 = .ok (.getfield 15, 3) := by decide +kernel
theorem dX0_settle_151 : decode cX0_settle 151 = .ok (.iload 10, 2) := by decide +kernel
theorem dX0_settle_153 : decode cX0_settle 153 = .ok (.laload, 1) := by decide +kernel
theorem dX0_settle_154 : decode cX0_settle 154 = .ok (.ladd, 1) := by decide +kernel
theorem dX0_settle_155 : decode cX0_settle 155 = .ok (.lstore 8, 2) := by decide +kernel
theorem dX0_settle_157 : decode cX0_settle 157 = .ok (.iinc 10 1, 3) := by decide +kernel
theorem dX0_settle_160 : decode cX0_settle 160 = .ok (.goto (-113), 3) := by decide +kernel
theorem dX0_settle_163 : decode cX0_settle 163 = .ok (.aload_n 0, 1) := by decide +kernel
theorem dX0_settle_164 : decode cX0_settle 164 = .ok (.getfield 28, 3) := by decide +kernel
theorem dX0_settle_167 : decode cX0_settle 167 = .ok (.lconst 0, 1) := by decide +kernel
theorem dX0_settle_168 : decode cX0_settle 168 = .ok (.lcmp, 1) := by decide +kernel
theorem dX0_settle_169 : decode cX0_settle 169 = .ok (.ifCond .le 7, 3) := by decide +kernel
theorem dX0_settle_172 : decode cX0_settle 172 = .ok (.iconst 1, 1) := by decide +kernel
theorem dX0_settle_173 : decode cX0_settle 173 = .ok (.goto 4, 3) := by decide +kernel
theorem dX0_settle_176 : decode cX0_settle 176 = .ok (.iconst 0, 1) := by decide +kernel
theorem dX0_settle_177 : decode cX0_settle 177 = .ok (.ireturn, 1) := by decide +kernel
theorem dX0_unit_0 : decode cX0_unit 0 = .ok (.ldc2_w 58, 3) := by decide +kernel
theorem dX0_unit_3 : decode cX0_unit 3 = .ok (.aload_n 0, 1) := by decide +kernel
theorem dX0_unit_4 : decode cX0_unit 4 = .ok (.getfield 28, 3) := by decide +kernel
theorem dX0_unit_7 : decode cX0_unit 7 = .ok (.lmul, 1) := by decide +kernel
theorem dX0_unit_8 : decode cX0_unit 8 = .ok (.aload_n 0, 1) := by decide +kernel
theorem dX0_unit_9 : decode cX0_unit 9 = .ok (.getfield 28, 3) := by decide +kernel
theorem dX0_unit_12 : decode cX0_unit 12 = .ok (.lmul, 1) := by decide +kernel
theorem dX0_unit_13 : decode cX0_unit 13 = .ok (.lreturn, 1) := by decide +kernel
theorem dX0_round_0 : decode cX0_round 0 = .ok (.iload_n 1, 1) := by decide +kernel
theorem dX0_round_1 : decode cX0_round 1 = .ok (.aload_n 0, 1) := by decide +kernel
theorem dX0_round_2 : decode cX0_round 2 = .ok (.getfield 24, 3) := by decide +kernel
theorem dX0_round_5 : decode cX0_round 5 = .ok (.if_icmp .ge 7, 3) := by decide +kernel
theorem dX0_round_8 : decode cX0_round 8 = .ok (.iload_n 1, 1) := by decide +kernel
theorem dX0_round_9 : decode cX0_round 9 = .ok (.goto 9, 3) := by decide +kernel
theorem dX0_round_12 : decode cX0_round 12 = .ok (.iload_n 1, 1) := by decide +kernel
theorem dX0_round_13 : decode cX0_round 13 = .ok (.aload_n 0, 1) := by decide +kernel
theorem dX0_round_14 : decode cX0_round 14 = .ok (.getfield 24, 3) := by decide +kernel
theorem dX0_round_17 : decode cX0_round 17 = .ok (.isub, 1) := by decide +kernel
theorem dX0_round_18 : decode cX0_round 18 = .ok (.ireturn, 1) := by decide +kernel
theorem dX0_leftness_0 : decode cX0_leftness 0 = .ok (.aload_n 0, 1) := by decide +kernel
theorem dX0_leftness_1 : decode cX0_leftness 1 = .ok (.getfield 18, 3) := by decide +kernel
theorem dX0_leftness_4 : decode cX0_leftness 4 = .ok (.iload_n 2, 1) := by decide +kernel
theorem dX0_leftness_5 : decode cX0_leftness 5 = .ok (.laload, 1) := by decide +kernel
theorem dX0_leftness_6 : decode cX0_leftness 6 = .ok (.aload_n 0, 1) := by decide +kernel
theorem dX0_leftness_7 : decode cX0_leftness 7 = .ok (.getfield 18, 3) := by decide +kernel
theorem dX0_leftness_10 : decode cX0_leftness 10 = .ok (.iload_n 1, 1) := by decide +kernel
theorem dX0_leftness_11 : decode cX0_leftness 11 = .ok (.laload, 1) := by decide +kernel
theorem dX0_leftness_12 : decode cX0_leftness 12 = .ok (.lsub, 1) := by decide +kernel
theorem dX0_leftness_13 : decode cX0_leftness 13 = .ok (.aload_n 0, 1) := by decide +kernel
theorem dX0_leftness_14 : decode cX0_leftness 14 = .ok (.getfield 21, 3) := by decide +kernel
theorem dX0_leftness_17 : decode cX0_leftness 17 = .ok (.iload_n 3, 1) := by decide +kernel
theorem dX0_leftness_18 : decode cX0_leftness 18 = .ok (.laload, 1) := by decide +kernel
theorem dX0_leftness_19 : decode cX0_leftness 19 = .ok (.aload_n 0, 1) := by decide +kernel
theorem dX0_leftness_20 : decode cX0_leftness 20 = .ok (.getfield 21, 3) := by decide +kernel
theorem dX0_leftness_23 : decode cX0_leftness 23 = .ok (.iload_n 1, 1) := by decide +kernel
theorem dX0_leftness_24 : decode cX0_leftness 24 = .ok (.laload, 1) := by decide +kernel
theorem dX0_leftness_25 : decode cX0_leftness 25 = .ok (.lsub, 1) := by decide +kernel
theorem dX0_leftness_26 : decode cX0_leftness 26 = .ok (.lmul, 1) := by decide +kernel
theorem dX0_leftness_27 : decode cX0_leftness 27 = .ok (.aload_n 0, 1) := by decide +kernel
theorem dX0_leftness_28 : decode cX0_leftness 28 = .ok (.getfield 21, 3) := by decide +kernel
theorem dX0_leftness_31 : decode cX0_leftness 31 = .ok (.iload_n 2, 1) := by decide +kernel
theorem dX0_leftness_32 : decode cX0_leftness 32 = .ok (.laload, 1) := by decide +kernel
theorem dX0_leftness_33 : decode cX0_leftness 33 = .ok (.aload_n 0, 1) := by decide +kernel
theorem dX0_leftness_34 : decode cX0_leftness 34 = .ok (.getfield 21, 3) := by decide +kernel
theorem dX0_leftness_37 : decode cX0_leftness 37 = .ok (.iload_n 1, 1) := by decide +kernel
theorem dX0_leftness_38 : decode cX0_leftness 38 = .ok (.laload, 1) := by decide +kernel
theorem dX0_leftness_39 : decode cX0_leftness 39 = .ok (.lsub, 1) := by decide +kernel
theorem dX0_leftness_40 : decode cX0_leftness 40 = .ok (.aload_n 0, 1) := by decide +kernel
theorem dX0_leftness_41 : decode cX0_leftness 41 = .ok (.getfield 18, 3) := by decide +kernel
theorem dX0_leftness_44 : decode cX0_leftness 44 = .ok (.iload_n 3, 1) := by decide +kernel
theorem dX0_leftness_45 : decode cX0_leftness 45 = .ok (.laload, 1) := by decide +kernel
theorem dX0_leftness_46 : decode cX0_leftness 46 = .ok (.aload_n 0, 1) := by decide +kernel
theorem dX0_leftness_47 : decode cX0_leftness 47 = .ok (.getfield 18, 3) := by decide +kernel
theorem dX0_leftness_50 : decode cX0_leftness 50 = .ok (.iload_n 1, 1) := by decide +kernel
theorem dX0_leftness_51 : decode cX0_leftness 51 = .ok (.laload, 1) := by decide +kernel
theorem dX0_leftness_52 : decode cX0_leftness 52 = .ok (.lsub, 1) := by decide +kernel
theorem dX0_leftness_53 : decode cX0_leftness 53 = .ok (.lmul, 1) := by decide +kernel
theorem dX0_leftness_54 : decode cX0_leftness 54 = .ok (.lsub, 1) := by decide +kernel
theorem dX0_leftness_55 : decode cX0_leftness 55 = .ok (.lreturn, 1) := by decide +kernel
theorem dX0_crossProduct_0 : decode cX0_crossProduct 0 = .ok (.aload_n 0, 1) := by decide +kernel
theorem dX0_crossProduct_1 : decode cX0_crossProduct 1 = .ok (.getfield 18, 3) := by decide +kernel
theorem dX0_crossProduct_4 : decode cX0_crossProduct 4 = .ok (.iload_n 1, 1) := by decide +kernel
theorem dX0_crossProduct_5 : decode cX0_crossProduct 5 = .ok (.laload, 1) := by decide +kernel
theorem dX0_crossProduct_6 : decode cX0_crossProduct 6 = .ok (.aload_n 0, 1) := by decide +kernel
theorem dX0_crossProduct_7 : decode cX0_crossProduct 7 = .ok (.getfield 21, 3) := by decide +kernel
theorem dX0_crossProduct_10 : decode cX0_crossProduct 10 = .ok (.iload_n 2, 1) := by decide +kernel
theorem dX0_crossProduct_11 : decode cX0_crossProduct 11 = .ok (.laload, 1) := by decide +kernel
theorem dX0_crossProduct_12 : decode cX0_crossProduct 12 = .ok (.lmul, 1) := by decide +kernel
theorem dX0_crossProduct_13 : decode cX0_crossProduct 13 = .ok (.aload_n 0, 1) := by decide +kernel
theorem dX0_crossProduct_14 : decode cX0_crossProduct 14 = .ok (.getfield 21, 3) := by decide +kernel
theorem dX0_crossProduct_17 : decode cX0_crossProduct 17 = .ok (.iload_n 1, 1) := by decide +kernel
theorem dX0_crossProduct_18 : decode cX0_crossProduct 18 = .ok (.laload, 1) := by decide +kernel
theorem dX0_crossProduct_19 : decode cX0_crossProduct 19 = .ok (.aload_n 0, 1) := by decide +kernel
theorem dX0_crossProduct_20 : decode cX0_crossProduct 20 = .ok (.getfield 18, 3) := by decide +kernel
theorem dX0_crossProduct_23 : decode cX0_crossProduct 23 = .ok (.iload_n 2, 1) := by decide +kernel
theorem dX0_crossProduct_24 : decode cX0_crossProduct 24 = .ok (.laload, 1) := by decide +kernel
theorem dX0_crossProduct_25 : decode cX0_crossProduct 25 = .ok (.lmul, 1) := by decide +kernel
theorem dX0_crossProduct_26 : decode cX0_crossProduct 26 = .ok (.lsub, 1) := by decide +kernel
theorem dX0_crossProduct_27 : decode cX0_crossProduct 27 = .ok (.lreturn, 1) := by decide +kernel
theorem dX0_crossSum_0 : decode cX0_crossSum 0 = .ok (.lconst 0, 1) := by decide +kernel
theorem dX0_crossSum_1 : decode cX0_crossSum 1 = .ok (.lstore_n 1, 1) := by decide +kernel
theorem dX0_crossSum_2 : decode cX0_crossSum 2 = .ok (.iconst 0, 1) := by decide +kernel
theorem dX0_crossSum_3 : decode cX0_crossSum 3 = .ok (.istore_n 3, 1) := by decide +kernel
theorem dX0_crossSum_4 : decode cX0_crossSum 4 = .ok (.iload_n 3, 1) := by decide +kernel
theorem dX0_crossSum_5 : decode cX0_crossSum 5 = .ok (.aload_n 0, 1) := by decide +kernel
theorem dX0_crossSum_6 : decode cX0_crossSum 6 = .ok (.getfield 24, 3) := by decide +kernel
theorem dX0_crossSum_9 : decode cX0_crossSum 9 = .ok (.if_icmp .ge 24, 3) := by decide +kernel
theorem dX0_crossSum_12 : decode cX0_crossSum 12 = .ok (.lload_n 1, 1) := by decide +kernel
theorem dX0_crossSum_13 : decode cX0_crossSum 13 = .ok (.aload_n 0, 1) := by decide +kernel
theorem dX0_crossSum_14 : decode cX0_crossSum 14 = .ok (.iload_n 3, 1) := by decide +kernel
theorem dX0_crossSum_15 : decode cX0_crossSum 15 = .ok (.aload_n 0, 1) := by decide +kernel
theorem dX0_crossSum_16 : decode cX0_crossSum 16 = .ok (.iload_n 3, 1) := by decide +kernel
theorem dX0_crossSum_17 : decode cX0_crossSum 17 = .ok (.iconst 1, 1) := by decide +kernel
theorem dX0_crossSum_18 : decode cX0_crossSum 18 = .ok (.iadd, 1) := by decide +kernel
theorem dX0_crossSum_19 : decode cX0_crossSum 19 = .ok (.invokevirtual 60, 3) := by decide +kernel
theorem dX0_crossSum_22 : decode cX0_crossSum 22 = .ok (.invokevirtual 63, 3) := by decide +kernel
theorem dX0_crossSum_25 : decode cX0_crossSum 25 = .ok (.ladd, 1) := by decide +kernel
theorem dX0_crossSum_26 : decode cX0_crossSum 26 = .ok (.lstore_n 1, 1) := by decide +kernel
theorem dX0_crossSum_27 : decode cX0_crossSum 27 = .ok (.iinc 3 1, 3) := by decide +kernel
theorem dX0_crossSum_30 : decode cX0_crossSum 30 = .ok (.goto (-26), 3) := by decide +kernel
theorem dX0_crossSum_33 : decode cX0_crossSum 33 = .ok (.lload_n 1, 1) := by decide +kernel
theorem dX0_crossSum_34 : decode cX0_crossSum 34 = .ok (.lreturn, 1) := by decide +kernel
theorem dX0_turnAt_0 : decode cX0_turnAt 0 = .ok (.iload_n 1, 1) := by decide +kernel
theorem dX0_turnAt_1 : decode cX0_turnAt 1 = .ok (.ifCond .ne 12, 3) := by decide +kernel
theorem dX0_turnAt_4 : decode cX0_turnAt 4 = .ok (.aload_n 0, 1) := by decide +kernel
theorem dX0_turnAt_5 : decode cX0_turnAt 5 = .ok (.getfield 24, 3) := by decide +kernel
theorem dX0_turnAt_8 : decode cX0_turnAt 8 = .ok (.iconst 1, 1) := by decide +kernel
theorem dX0_turnAt_9 : decode cX0_turnAt 9 = .ok (.isub, 1) := by decide +kernel
theorem dX0_turnAt_10 : decode cX0_turnAt 10 = .ok (.goto 6, 3) := by decide +kernel
theorem dX0_turnAt_13 : decode cX0_turnAt 13 = .ok (.iload_n 1, 1) := by decide +kernel
theorem dX0_turnAt_14 : decode cX0_turnAt 14 = .ok (.iconst 1, 1) := by decide +kernel
theorem dX0_turnAt_15 : decode cX0_turnAt 15 = .ok (.isub, 1) := by decide +kernel
theorem dX0_turnAt_16 : decode cX0_turnAt 16 = .ok (.istore_n 2, 1) := by decide +kernel
theorem dX0_turnAt_17 : decode cX0_turnAt 17 = .ok (.aload_n 0, 1) := by decide +kernel
theorem dX0_turnAt_18 : decode cX0_turnAt 18 = .ok (.getfield 9, 3) := by decide +kernel
theorem dX0_turnAt_21 : decode cX0_turnAt 21 = .ok (.iload_n 2, 1) := by decide +kernel
theorem dX0_turnAt_22 : decode cX0_turnAt 22 = .ok (.laload, 1) := by decide +kernel
theorem dX0_turnAt_23 : decode cX0_turnAt 23 = .ok (.lconst 0, 1) := by decide +kernel
theorem dX0_turnAt_24 : decode cX0_turnAt 24 = .ok (.lcmp, 1) := by decide +kernel
theorem dX0_turnAt_25 : decode cX0_turnAt 25 = .ok (.ifCond .ne 14, 3) := by decide +kernel
theorem dX0_turnAt_28 : decode cX0_turnAt 28 = .ok (.aload_n 0, 1) := by decide +kernel
theorem dX0_turnAt_29 : decode cX0_turnAt 29 = .ok (.getfield 15, 3) := by decide +kernel
theorem dX0_turnAt_32 : decode cX0_turnAt 32 = .ok (.iload_n 2, 1) := by decide +kernel
theorem dX0_turnAt_33 : decode cX0_turnAt 33 = .ok (.laload, 1) := by decide +kernel
theorem dX0_turnAt_34 : decode cX0_turnAt 34 = .ok (.lconst 0, 1) := by decide +kernel
theorem dX0_turnAt_35 : decode cX0_turnAt 35 = .ok (.lcmp, 1) := by decide +kernel
theorem dX0_turnAt_36 : decode cX0_turnAt 36 = .ok (.ifCond .eq 25, 3) := by decide +kernel
theorem dX0_turnAt_39 : decode cX0_turnAt 39 = .ok (.aload_n 0, 1) := by decide +kernel
theorem dX0_turnAt_40 : decode cX0_turnAt 40 = .ok (.getfield 9, 3) := by decide +kernel
theorem dX0_turnAt_43 : decode cX0_turnAt 43 = .ok (.iload_n 1, 1) := by decide +kernel
theorem dX0_turnAt_44 : decode cX0_turnAt 44 = .ok (.laload, 1) := by decide +kernel
theorem dX0_turnAt_45 : decode cX0_turnAt 45 = .ok (.lconst 0, 1) := by decide +kernel
theorem dX0_turnAt_46 : decode cX0_turnAt 46 = .ok (.lcmp, 1) := by decide +kernel
theorem dX0_turnAt_47 : decode cX0_turnAt 47 = .ok (.ifCond .ne 18, 3) := by decide +kernel
theorem dX0_turnAt_50 : decode cX0_turnAt 50 = .ok (.aload_n 0, 1) := by decide +kernel
theorem dX0_turnAt_51 : decode cX0_turnAt 51 = .ok (.getfield 15, 3) := by decide +kernel
theorem dX0_turnAt_54 : decode cX0_turnAt 54 = .ok (.iload_n 1, 1) := by decide +kernel
theorem dX0_turnAt_55 : decode cX0_turnAt 55 = .ok (.laload, 1) := by decide +kernel
theorem dX0_turnAt_56 : decode cX0_turnAt 56 = .ok (.lconst 0, 1) := by decide +kernel
theorem dX0_turnAt_57 : decode cX0_turnAt 57 = .ok (.lcmp, 1) := by decide +kernel
theorem dX0_turnAt_58 : decode cX0_turnAt 58 = .ok (.ifCond .ne 7, 3) := by decide +kernel
theorem dX0_turnAt_61 : decode cX0_turnAt 61 = .ok (.iconst 1, 1) := by decide +kernel
theorem dX0_turnAt_62 : decode cX0_turnAt 62 = .ok (.goto 4, 3) := by decide +kernel
theorem dX0_turnAt_65 : decode cX0_turnAt 65 = .ok (.iconst 0, 1) := by decide +kernel
theorem dX0_turnAt_66 : decode cX0_turnAt 66 = .ok (.istore_n 3, 1) := by decide +kernel
theorem dX0_turnAt_67 : decode cX0_turnAt 67 = .ok (.iload_n 3, 1) := by decide +kernel
theorem dX0_turnAt_68 : decode cX0_turnAt 68 = .ok (.ifCond .eq 5, 3) := by decide +kernel
theorem dX0_turnAt_71 : decode cX0_turnAt 71 = .ok (.iconst 4, 1) := by decide +kernel
theorem dX0_turnAt_72 : decode cX0_turnAt 72 = .ok (.ireturn, 1) := by decide +kernel
theorem dX0_turnAt_73 : decode cX0_turnAt 73 = .ok (.aload_n 0, 1) := by decide +kernel
theorem dX0_turnAt_74 : decode cX0_turnAt 74 = .ok (.getfield 9, 3) := by decide +kernel
theorem dX0_turnAt_77 : decode cX0_turnAt 77 = .ok (.iload_n 2, 1) := by decide +kernel
theorem dX0_turnAt_78 : decode cX0_turnAt 78 = .ok (.laload, 1) := by decide +kernel
theorem dX0_turnAt_79 : decode cX0_turnAt 79 = .ok (.aload_n 0, 1) := by decide +kernel
theorem dX0_turnAt_80 : decode cX0_turnAt 80 = .ok (.getfield 15, 3) := by decide +kernel
theorem dX0_turnAt_83 : decode cX0_turnAt 83 = .ok (.iload_n 1, 1) := by decide +kernel
theorem dX0_turnAt_84 : decode cX0_turnAt 84 = .ok (.laload, 1) := by decide +kernel
theorem dX0_turnAt_85 : decode cX0_turnAt 85 = .ok (.lmul, 1) := by decide +kernel
theorem dX0_turnAt_86 : decode cX0_turnAt 86 = .ok (.aload_n 0, 1) := by decide +kernel
theorem dX0_turnAt_87 : decode cX0_turnAt 87 = .ok (.getfield 15, 3) := by decide +kernel
theorem dX0_turnAt_90 : decode cX0_turnAt 90 = .ok (.iload_n 2, 1) := by decide +kernel
theorem dX0_turnAt_91 : decode cX0_turnAt 91 = .ok (.laload, 1) := by decide +kernel
theorem dX0_turnAt_92 : decode cX0_turnAt 92 = .ok (.aload_n 0, 1) := by decide +kernel
theorem dX0_turnAt_93 : decode cX0_turnAt 93 = .ok (.getfield 9, 3) := by decide +kernel
theorem dX0_turnAt_96 : decode cX0_turnAt 96 = .ok (.iload_n 1, 1) := by decide +kernel
theorem dX0_turnAt_97 : decode cX0_turnAt 97 = .ok (.laload, 1) := by decide +kernel
theorem dX0_turnAt_98 : decode cX0_turnAt 98 = .ok (.lmul, 1) := by decide +kernel
theorem dX0_turnAt_99 : decode cX0_turnAt 99 = .ok (.lsub, 1) := by decide +kernel
theorem dX0_turnAt_100 : decode cX0_turnAt 100 = .ok (.lstore 4, 2) := by decide +kernel
theorem dX0_turnAt_102 : decode cX0_turnAt 102 = .ok (.lload 4, 2) := by decide +kernel
theorem dX0_turnAt_104 : decode cX0_turnAt 104 = .ok (.lconst 0, 1) := by decide +kernel
theorem dX0_turnAt_105 : decode cX0_turnAt 105 = .ok (.lcmp, 1) := by decide +kernel
theorem dX0_turnAt_106 : decode cX0_turnAt 106 = .ok (.ifCond .eq 16, 3) := by decide +kernel
theorem dX0_turnAt_109 : decode cX0_turnAt 109 = .ok (.lload 4, 2) := by decide +kernel
theorem dX0_turnAt_111 : decode cX0_turnAt 111 = .ok (.lconst 0, 1) := by decide +kernel
theorem dX0_turnAt_112 : decode cX0_turnAt 112 = .ok (.lcmp, 1) := by decide +kernel
theorem dX0_turnAt_113 : decode cX0_turnAt 113 = .ok (.ifCond .le 7, 3) := by decide +kernel
theorem dX0_turnAt_116 : decode cX0_turnAt 116 = .ok (.iconst 1, 1) := by decide +kernel
theorem dX0_turnAt_117 : decode cX0_turnAt 117 = .ok (.goto 4, 3) := by decide +kernel
theorem dX0_turnAt_120 : decode cX0_turnAt 120 = .ok (.iconst 2, 1) := by decide +kernel
theorem dX0_turnAt_121 : decode cX0_turnAt 121 = .ok (.ireturn, 1) := by decide +kernel
theorem dX0_turnAt_122 : decode cX0_turnAt 122 = .ok (.aload_n 0, 1) := by decide +kernel
theorem dX0_turnAt_123 : decode cX0_turnAt 123 = .ok (.getfield 9, 3) := by decide +kernel
theorem dX0_turnAt_126 : decode cX0_turnAt 126 = .ok (.iload_n 2, 1) := by decide +kernel
theorem dX0_turnAt_127 : decode cX0_turnAt 127 = .ok (.laload, 1) := by decide +kernel
theorem dX0_turnAt_128 : decode cX0_turnAt 128 = .ok (.aload_n 0, 1) := by decide +kernel
theorem dX0_turnAt_129 : decode cX0_turnAt 129 = .ok (.getfield 9, 3) := by decide +kernel
theorem dX0_turnAt_132 : decode cX0_turnAt 132 = .ok (.iload_n 1, 1) := by decide +kernel
theorem dX0_turnAt_133 : decode cX0_turnAt 133 = .ok (.laload, 1) := by decide +kernel
theorem dX0_turnAt_134 : decode cX0_turnAt 134 = .ok (.lmul, 1) := by decide +kernel
theorem dX0_turnAt_135 : decode cX0_turnAt 135 = .ok (.aload_n 0, 1) := by decide +kernel
theorem dX0_turnAt_136 : decode cX0_turnAt 136 = .ok (.getfield 15, 3) := by decide +kernel
theorem dX0_turnAt_139 : decode cX0_turnAt 139 = .ok (.iload_n 2, 1) := by decide +kernel
theorem dX0_turnAt_140 : decode cX0_turnAt 140 = .ok (.laload, 1) := by decide +kernel
theorem dX0_turnAt_141 : decode cX0_turnAt 141 = .ok (.aload_n 0, 1) := by decide +kernel
theorem dX0_turnAt_142 : decode cX0_turnAt 142 = .ok (.getfield 15, 3) := by decide +kernel
theorem dX0_turnAt_145 : decode cX0_turnAt 145 = .ok (.iload_n 1, 1) := by decide +kernel
theorem dX0_turnAt_146 : decode cX0_turnAt 146 = .ok (.laload, 1) := by decide +kernel
theorem dX0_turnAt_147 : decode cX0_turnAt 147 = .ok (.lmul, 1) := by decide +kernel
theorem dX0_turnAt_148 : decode cX0_turnAt 148 = .ok (.ladd, 1) := by decide +kernel
theorem dX0_turnAt_149 : decode cX0_turnAt 149 = .ok (.lstore 6, 2) := by decide +kernel
theorem dX0_turnAt_151 : decode cX0_turnAt 151 = .ok (.lload 6, 2) := by decide +kernel
theorem dX0_turnAt_153 : decode cX0_turnAt 153 = .ok (.lconst 0, 1) := by decide +kernel
theorem dX0_turnAt_154 : decode cX0_turnAt 154 = .ok (.lcmp, 1) := by decide +kernel
theorem dX0_turnAt_155 : decode cX0_turnAt 155 = .ok (.ifCond .le 7, 3) := by decide +kernel
theorem dX0_turnAt_158 : decode cX0_turnAt 158 = .ok (.iconst 0, 1) := by decide +kernel
theorem dX0_turnAt_159 : decode cX0_turnAt 159 = .ok (.goto 4, 3) := by decide +kernel
theorem dX0_turnAt_162 : decode cX0_turnAt 162 = .ok (.iconst 3, 1) := by decide +kernel
theorem dX0_turnAt_163 : decode cX0_turnAt 163 = .ok (.ireturn, 1) := by decide +kernel
theorem dX0_areNeighbours_0 : decode cX0_areNeighbours 0 = .ok (.aload_n 0, 1) := by decide +kernel
theorem dX0_areNeighbours_1 : decode cX0_areNeighbours 1 = .ok (.iload_n 1, 1) := by decide +kernel
theorem dX0_areNeighbours_2 : decode cX0_areNeighbours 2 = .ok (.iconst 1, 1) := by decide +kernel
theorem dX0_areNeighbours_3 : decode cX0_areNeighbours 3 = .ok (.iadd, 1) := by decide +kernel
theorem dX0_areNeighbours_4 : decode cX0_areNeighbours 4 = .ok (.invokevirtual 60, 3) := by decide +kernel
theorem dX0_areNeighbours_7 : decode cX0_areNeighbours 7 = .ok (.iload_n 2, 1) := by decide +kernel
theorem dX0_areNeighbours_8 : decode cX0_areNeighbours 8 = .ok (.if_icmp .eq 14, 3) := by decide +kernel
theorem dX0_areNeighbours_11 : decode cX0_areNeighbours 11 = .ok (.aload_n 0, 1) := by decide +kernel
theorem dX0_areNeighbours_12 : decode cX0_areNeighbours 12 = .ok (.iload_n 2, 1) := by decide +kernel
theorem dX0_areNeighbours_13 : decode cX0_areNeighbours 13 = .ok (.iconst 1, 1) := by decide +kernel
theorem dX0_areNeighbours_14 : decode cX0_areNeighbours 14 = .ok (.iadd, 1) := by decide +kernel
theorem dX0_areNeighbours_15 : decode cX0_areNeighbours 15 = .ok (.invokevirtual 60, 3) := by decide +kernel
theorem dX0_areNeighbours_18 : decode cX0_areNeighbours 18 = .ok (.iload_n 1, 1) := by decide +kernel
theorem dX0_areNeighbours_19 : decode cX0_areNeighbours 19 = .ok (.if_icmp .ne 7, 3) := by decide +kernel
theorem dX0_areNeighbours_22 : decode cX0_areNeighbours 22 = .ok (.iconst 1, 1) := by decide +kernel
theorem dX0_areNeighbours_23 : decode cX0_areNeighbours 23 = .ok (.goto 4, 3) := by decide +kernel
theorem dX0_areNeighbours_26 : decode cX0_areNeighbours 26 = .ok (.iconst 0, 1) := by decide +kernel
theorem dX0_areNeighbours_27 : decode cX0_areNeighbours 27 = .ok (.ireturn, 1) := by decide +kernel
theorem dX0_meet_0 : decode cX0_meet 0 = .ok (.aload_n 0, 1) := by decide +kernel
theorem dX0_meet_1 : decode cX0_meet 1 = .ok (.iload_n 1, 1) := by decide +kernel
theorem dX0_meet_2 : decode cX0_meet 2 = .ok (.iconst 1, 1) := by decide +kernel
theorem dX0_meet_3 : decode cX0_meet 3 = .ok (.iadd, 1) := by decide +kernel
theorem dX0_meet_4 : decode cX0_meet 4 = .ok (.invokevirtual 60, 3) := by decide +kernel
theorem dX0_meet_7 : decode cX0_meet 7 = .ok (.istore_n 3, 1) := by decide +kernel
theorem dX0_meet_8 : decode cX0_meet 8 = .ok (.aload_n 0, 1) := by decide +kernel
theorem dX0_meet_9 : decode cX0_meet 9 = .ok (.iload_n 2, 1) := by decide +kernel
theorem dX0_meet_10 : decode cX0_meet 10 = .ok (.iconst 1, 1) := by decide +kernel
theorem dX0_meet_11 : decode cX0_meet 11 = .ok (.iadd, 1) := by decide +kernel
theorem dX0_meet_12 : decode cX0_meet 12 = .ok (.invokevirtual 60, 3) := by decide +kernel
theorem dX0_meet_15 : decode cX0_meet 15 = .ok (.istore 4, 2) := by decide +kernel
theorem dX0_meet_17 : decode cX0_meet 17 = .ok (.aload_n 0, 1) := by decide +kernel
theorem dX0_meet_18 : decode cX0_meet 18 = .ok (.iload_n 1, 1) := by decide +kernel
theorem dX0_meet_19 : decode cX0_meet 19 = .ok (.iload_n 3, 1) := by decide +kernel
theorem dX0_meet_20 : decode cX0_meet 20 = .ok (.iload_n 2, 1) := by decide +kernel
theorem dX0_meet_21 : decode cX0_meet 21 = .ok (.invokevirtual 67, 3) := by decide +kernel
theorem dX0_meet_24 : decode cX0_meet 24 = .ok (.lstore 5, 2) := by decide +kernel
theorem dX0_meet_26 : decode cX0_meet 26 = .ok (.aload_n 0, 1) := by decide +kernel
theorem dX0_meet_27 : decode cX0_meet 27 = .ok (.iload_n 1, 1) := by decide +kernel
theorem dX0_meet_28 : decode cX0_meet 28 = .ok (.iload_n 3, 1) := by decide +kernel
theorem dX0_meet_29 : decode cX0_meet 29 = .ok (.iload 4, 2) := by decide +kernel
theorem dX0_meet_31 : decode cX0_meet 31 = .ok (.invokevirtual 67, 3) := by decide +kernel
theorem dX0_meet_34 : decode cX0_meet 34 = .ok (.lstore 7, 2) := by decide +kernel
theorem dX0_meet_36 : decode cX0_meet 36 = .ok (.aload_n 0, 1) := by decide +kernel
theorem dX0_meet_37 : decode cX0_meet 37 = .ok (.iload_n 2, 1) := by decide +kernel
theorem dX0_meet_38 : decode cX0_meet 38 = .ok (.iload 4, 2) := by decide +kernel
theorem dX0_meet_40 : decode cX0_meet 40 = .ok (.iload_n 1, 1) := by decide +kernel
theorem dX0_meet_41 : decode cX0_meet 41 = .ok (.invokevirtual 67, 3) := by decide +kernel
theorem dX0_meet_44 : decode cX0_meet 44 = .ok (.lstore 9, 2) := by decide +kernel
theorem dX0_meet_46 : decode cX0_meet 46 = .ok (.aload_n 0, 1) := by decide +kernel
theorem dX0_meet_47 : decode cX0_meet 47 = .ok (.iload_n 2, 1) := by decide +kernel
theorem dX0_meet_48 : decode cX0_meet 48 = .ok (.iload 4, 2) := by decide +kernel
theorem dX0_meet_50 : decode cX0_meet 50 = .ok (.iload_n 3, 1) := by decide +kernel
theorem dX0_meet_51 : decode cX0_meet 51 = .ok (.invokevirtual 67, 3) := by decide +kernel
theorem dX0_meet_54 : decode cX0_meet 54 = .ok (.lstore 11, 2) := by decide +kernel
theorem dX0_meet_56 : decode cX0_meet 56 = .ok (.lload 5, 2) := by decide +kernel
theorem dX0_meet_58 : decode cX0_meet 58 = .ok (.invokestatic 71, 3) := by decide +kernel
theorem dX0_meet_61 : decode cX0_meet 61 = .ok (.lload 7, 2) := by decide +kernel
theorem dX0_meet_63 : decode cX0_meet 63 = .ok (.invokestatic 71, 3) := by decide +kernel
theorem dX0_meet_66 : decode cX0_meet 66 = .ok (.imul, 1) := by decide +kernel
theorem dX0_meet_67 : decode cX0_meet 67 = .ok (.ifCond .ge 21, 3) := by decide +kernel
theorem dX0_meet_70 : decode cX0_meet 70 = .ok (.lload 9, 2) := by decide +kernel
theorem dX0_meet_72 : decode cX0_meet 72 = .ok (.invokestatic 71, 3) := by decide +kernel
theorem dX0_meet_75 : decode cX0_meet 75 = .ok (.lload 11, 2) := by decide +kernel
theorem dX0_meet_77 : decode cX0_meet 77 = .ok (.invokestatic 71, 3) := by decide +kernel
theorem dX0_meet_80 : decode cX0_meet 80 = .ok (.imul, 1) := by decide +kernel
theorem dX0_meet_81 : decode cX0_meet 81 = .ok (.ifCond .ge 7, 3) := by decide +kernel
theorem dX0_meet_84 : decode cX0_meet 84 = .ok (.iconst 1, 1) := by decide +kernel
theorem dX0_meet_85 : decode cX0_meet 85 = .ok (.goto 4, 3) := by decide +kernel
theorem dX0_meet_88 : decode cX0_meet 88 = .ok (.iconst 0, 1) := by decide +kernel
theorem dX0_meet_89 : decode cX0_meet 89 = .ok (.istore 13, 2) := by decide +kernel
theorem dX0_meet_91 : decode cX0_meet 91 = .ok (.iload 13, 2) := by decide +kernel
theorem dX0_meet_93 : decode cX0_meet 93 = .ok (.ifCond .ne 74, 3) := by decide +kernel
theorem dX0_meet_96 : decode cX0_meet 96 = .ok (.lload 5, 2) := by decide +kernel
theorem dX0_meet_98 : decode cX0_meet 98 = .ok (.lconst 0, 1) := by decide +kernel
theorem dX0_meet_99 : decode cX0_meet 99 = .ok (.lcmp, 1) := by decide +kernel
theorem dX0_meet_100 : decode cX0_meet 100 = .ok (.ifCond .ne 13, 3) := by decide +kernel
theorem dX0_meet_103 : decode cX0_meet 103 = .ok (.aload_n 0, 1) := by decide +kernel
theorem dX0_meet_104 : decode cX0_meet 104 = .ok (.iload_n 1, 1) := by decide +kernel
theorem dX0_meet_105 : decode cX0_meet 105 = .ok (.iload_n 3, 1) := by decide +kernel
theorem dX0_meet_106 : decode cX0_meet 106 = .ok (.iload_n 2, 1) := by decide +kernel
theorem dX0_meet_107 : decode cX0_meet 107 = .ok (.invokevirtual 77, 3) := by decide +kernel
theorem dX0_meet_110 : decode cX0_meet 110 = .ok (.ifCond .ne 57, 3) := by decide +kernel
theorem dX0_meet_113 : decode cX0_meet 113 = .ok (.lload 7, 2) := by decide +kernel
theorem dX0_meet_115 : decode cX0_meet 115 = .ok (.lconst 0, 1) := by decide +kernel
theorem dX0_meet_116 : decode cX0_meet 116 = .ok (.lcmp, 1) := by decide +kernel
theorem dX0_meet_117 : decode cX0_meet 117 = .ok (.ifCond .ne 14, 3) := by decide +kernel
theorem dX0_meet_120 : decode cX0_meet 120 = .ok (.aload_n 0, 1) := by decide +kernel
theorem dX0_meet_121 : decode cX0_meet 121 = .ok (.iload_n 1, 1) := by decide +kernel
theorem dX0_meet_122 : decode cX0_meet 122 = .ok (.iload_n 3, 1) := by decide +kernel
theorem dX0_meet_123 : decode cX0_meet 123 = .ok (.iload 4, 2) := by decide +kernel
theorem dX0_meet_125 : decode cX0_meet 125 = .ok (.invokevirtual 77, 3) := by decide +kernel
theorem dX0_meet_128 : decode cX0_meet 128 = .ok (.ifCond .ne 39, 3) := by decide +kernel
theorem dX0_meet_131 : decode cX0_meet 131 = .ok (.lload 9, 2) := by decide +kernel
theorem dX0_meet_133 : decode cX0_meet 133 = .ok (.lconst 0, 1) := by decide +kernel
theorem dX0_meet_134 : decode cX0_meet 134 = .ok (.lcmp, 1) := by decide +kernel
theorem dX0_meet_135 : decode cX0_meet 135 = .ok (.ifCond .ne 14, 3) := by decide +kernel
theorem dX0_meet_138 : decode cX0_meet 138 = .ok (.aload_n 0, 1) := by decide +kernel
theorem dX0_meet_139 : decode cX0_meet 139 = .ok (.iload_n 2, 1) := by decide +kernel
theorem dX0_meet_140 : decode cX0_meet 140 = .ok (.iload 4, 2) := by decide +kernel
theorem dX0_meet_142 : decode cX0_meet 142 = .ok (.iload_n 1, 1) := by decide +kernel
theorem dX0_meet_143 : decode cX0_meet 143 = .ok (.invokevirtual 77, 3) := by decide +kernel
theorem dX0_meet_146 : decode cX0_meet 146 = .ok (.ifCond .ne 21, 3) := by decide +kernel
theorem dX0_meet_149 : decode cX0_meet 149 = .ok (.lload 11, 2) := by decide +kernel
theorem dX0_meet_151 : decode cX0_meet 151 = .ok (.lconst 0, 1) := by decide +kernel
theorem dX0_meet_152 : decode cX0_meet 152 = .ok (.lcmp, 1) := by decide +kernel
theorem dX0_meet_153 : decode cX0_meet 153 = .ok (.ifCond .ne 18, 3) := by decide +kernel
theorem dX0_meet_156 : decode cX0_meet 156 = .ok (.aload_n 0, 1) := by decide +kernel
theorem dX0_meet_157 : decode cX0_meet 157 = .ok (.iload_n 2, 1) := by decide +kernel
theorem dX0_meet_158 : decode cX0_meet 158 = .ok (.iload 4, 2) := by decide +kernel
theorem dX0_meet_160 : decode cX0_meet 160 = .ok (.iload_n 3, 1) := by decide +kernel
theorem dX0_meet_161 : decode cX0_meet 161 = .ok (.invokevirtual 77, 3) := by decide +kernel
theorem dX0_meet_164 : decode cX0_meet 164 = .ok (.ifCond .eq 7, 3) := by decide +kernel
theorem dX0_meet_167 : decode cX0_meet 167 = .ok (.iconst 1, 1) := by decide +kernel
theorem dX0_meet_168 : decode cX0_meet 168 = .ok (.goto 4, 3) := by decide +kernel
theorem dX0_meet_171 : decode cX0_meet 171 = .ok (.iconst 0, 1) := by decide +kernel
theorem dX0_meet_172 : decode cX0_meet 172 = .ok (.ireturn, 1) := by decide +kernel
theorem dX0_isBetween_0 : decode cX0_isBetween 0 = .ok (.aload_n 0, 1) := by decide +kernel
theorem dX0_isBetween_1 : decode cX0_isBetween 1 = .ok (.getfield 18, 3) := by decide +kernel
theorem dX0_isBetween_4 : decode cX0_isBetween 4 = .ok (.iload_n 1, 1) := by decide +kernel
theorem dX0_isBetween_5 : decode cX0_isBetween 5 = .ok (.laload, 1) := by decide +kernel
theorem dX0_isBetween_6 : decode cX0_isBetween 6 = .ok (.aload_n 0, 1) := by decide +kernel
theorem dX0_isBetween_7 : decode cX0_isBetween 7 = .ok (.getfield 18, 3) := by decide +kernel
theorem dX0_isBetween_10 : decode cX0_isBetween 10 = .ok (.iload_n 2, 1) := by decide +kernel
theorem dX0_isBetween_11 : decode cX0_isBetween 11 = .ok (.laload, 1) := by decide +kernel
theorem dX0_isBetween_12 : decode cX0_isBetween 12 = .ok (.invokestatic 81, 3) := by decide +kernel
theorem dX0_isBetween_15 : decode cX0_isBetween 15 = .ok (.aload_n 0, 1) := by decide +kernel
theorem dX0_isBetween_16 : decode cX0_isBetween 16 = .ok (.getfield 18, 3) := by decide +kernel
theorem dX0_isBetween_19 : decode cX0_isBetween 19 = .ok (.iload_n 3, 1) := by decide +kernel
theorem dX0_isBetween_20 : decode cX0_isBetween 20 = .ok (.laload, 1) := by decide +kernel
theorem dX0_isBetween_21 : decode cX0_isBetween 21 = .ok (.lcmp, 1) := by decide +kernel
theorem dX0_isBetween_22 : decode cX0_isBetween 22 = .ok (.ifCond .gt 82, 3) := by decide +kernel
theorem dX0_isBetween_25 : decode cX0_isBetween 25 = .ok (.aload_n 0, 1) := by decide +kernel
theorem dX0_isBetween_26 : decode cX0_isBetween 26 = .ok (.getfield 18, 3) := by decide +kernel
theorem dX0_isBetween_29 : decode cX0_isBetween 29 = .ok (.iload_n 3, 1) := by decide +kernel
theorem dX0_isBetween_30 : decode cX0_isBetween 30 = .ok (.laload, 1) := by decide +kernel
theorem dX0_isBetween_31 : decode cX0_isBetween 31 = .ok (.aload_n 0, 1) := by decide +kernel
theorem dX0_isBetween_32 : decode cX0_isBetween 32 = .ok (.getfield 18, 3) := by decide +kernel
theorem dX0_isBetween_35 : decode cX0_isBetween 35 = .ok (.iload_n 1, 1) := by decide +kernel
theorem dX0_isBetween_36 : decode cX0_isBetween 36 = .ok (.laload, 1) := by decide +kernel
theorem dX0_isBetween_37 : decode cX0_isBetween 37 = .ok (.aload_n 0, 1) := by decide +kernel
theorem dX0_isBetween_38 : decode cX0_isBetween 38 = .ok (.getfield 18, 3) := by decide +kernel
theorem dX0_isBetween_41 : decode cX0_isBetween 41 = .ok (.iload_n 2, 1) := by decide +kernel
theorem dX0_isBetween_42 : decode cX0_isBetween 42 = .ok (.laload, 1) := by decide +kernel
theorem dX0_isBetween_43 : decode cX0_isBetween 43 = .ok (.invokestatic 87, 3) := by decide +kernel
theorem dX0_isBetween_46 : decode cX0_isBetween 46 = .ok (.lcmp, 1) := by decide +kernel
theorem dX0_isBetween_47 : decode cX0_isBetween 47 = .ok (.ifCond .gt 57, 3) := by decide +kernel
theorem dX0_isBetween_50 : decode cX0_isBetween 50 = .ok (.aload_n 0, 1) := by decide +kernel
theorem dX0_isBetween_51 : decode cX0_isBetween 51 = .ok (.getfield 21, 3) := by decide +kernel
theorem dX0_isBetween_54 : decode cX0_isBetween 54 = .ok (.iload_n 1, 1) := by decide +kernel
theorem dX0_isBetween_55 : decode cX0_isBetween 55 = .ok (.laload, 1) := by decide +kernel
theorem dX0_isBetween_56 : decode cX0_isBetween 56 = .ok (.aload_n 0, 1) := by decide +kernel
theorem dX0_isBetween_57 : decode cX0_isBetween 57 = .ok (.getfield 21, 3) := by decide +kernel
theorem dX0_isBetween_60 : decode cX0_isBetween 60 = .ok (.iload_n 2, 1) := by decide +kernel
theorem dX0_isBetween_61 : decode cX0_isBetween 61 = .ok (.laload, 1) := by decide +kernel
theorem dX0_isBetween_62 : decode cX0_isBetween 62 = .ok (.invokestatic 81, 3) := by decide +kernel
theorem dX0_isBetween_65 : decode cX0_isBetween 65 = .ok (.aload_n 0, 1) := by decide +kernel
theorem dX0_isBetween_66 : decode cX0_isBetween 66 = .ok (.getfield 21, 3) := by decide +kernel
theorem dX0_isBetween_69 : decode cX0_isBetween 69 = .ok (.iload_n 3, 1) := by decide +kernel
theorem dX0_isBetween_70 : decode cX0_isBetween 70 = .ok (.laload, 1) := by decide +kernel
theorem dX0_isBetween_71 : decode cX0_isBetween 71 = .ok (.lcmp, 1) := by decide +kernel
theorem dX0_isBetween_72 : decode cX0_isBetween 72 = .ok (.ifCond .gt 32, 3) := by decide +kernel
theorem dX0_isBetween_75 : decode cX0_isBetween 75 = .ok (.aload_n 0, 1) := by decide +kernel
theorem dX0_isBetween_76 : decode cX0_isBetween 76 = .ok (.getfield 21, 3) := by decide +kernel
theorem dX0_isBetween_79 : decode cX0_isBetween 79 = .ok (.iload_n 3, 1) := by decide +kernel
theorem dX0_isBetween_80 : decode cX0_isBetween 80 = .ok (.laload, 1) := by decide +kernel
theorem dX0_isBetween_81 : decode cX0_isBetween 81 = .ok (.aload_n 0, 1) := by decide +kernel
theorem dX0_isBetween_82 : decode cX0_isBetween 82 = .ok (.getfield 21, 3) := by decide +kernel
theorem dX0_isBetween_85 : decode cX0_isBetween 85 = .ok (.iload_n 1, 1) := by decide +kernel
theorem dX0_isBetween_86 : decode cX0_isBetween 86 = .ok (.laload, 1) := by decide +kernel
theorem dX0_isBetween_87 : decode cX0_isBetween 87 = .ok (.aload_n 0, 1) := by decide +kernel
theorem dX0_isBetween_88 : decode cX0_isBetween 88 = .ok (.getfield 21, 3) := by decide +kernel
theorem dX0_isBetween_91 : decode cX0_isBetween 91 = .ok (.iload_n 2, 1) := by decide +kernel
theorem dX0_isBetween_92 : decode cX0_isBetween 92 = .ok (.laload, 1) := by decide +kernel
theorem dX0_isBetween_93 : decode cX0_isBetween 93 = .ok (.invokestatic 87, 3) := by decide +kernel
theorem dX0_isBetween_96 : decode cX0_isBetween 96 = .ok (.lcmp, 1) := by decide +kernel
theorem dX0_isBetween_97 : decode cX0_isBetween 97 = .ok (.ifCond .gt 7, 3) := by decide +kernel
theorem dX0_isBetween_100 : decode cX0_isBetween 100 = .ok (.iconst 1, 1) := by decide +kernel
theorem dX0_isBetween_101 : decode cX0_isBetween 101 = .ok (.goto 4, 3) := by decide +kernel
theorem dX0_isBetween_104 : decode cX0_isBetween 104 = .ok (.iconst 0, 1) := by decide +kernel
theorem dX0_isBetween_105 : decode cX0_isBetween 105 = .ok (.ireturn, 1) := by decide +kernel
theorem dX0_meetings_0 : decode cX0_meetings 0 = .ok (.iconst 0, 1) := by decide +kernel
theorem dX0_meetings_1 : decode cX0_meetings 1 = .ok (.istore_n 1, 1) := by decide +kernel
theorem dX0_meetings_2 : decode cX0_meetings 2 = .ok (.iconst 0, 1) := by decide +kernel
theorem dX0_meetings_3 : decode cX0_meetings 3 = .ok (.istore_n 2, 1) := by decide +kernel
theorem dX0_meetings_4 : decode cX0_meetings 4 = .ok (.iload_n 2, 1) := by decide +kernel
theorem dX0_meetings_5 : decode cX0_meetings 5 = .ok (.aload_n 0, 1) := by decide +kernel
theorem dX0_meetings_6 : decode cX0_meetings 6 = .ok (.getfield 24, 3) := by decide +kernel
theorem dX0_meetings_9 : decode cX0_meetings 9 = .ok (.if_icmp .ge 48, 3) := by decide +kernel
theorem dX0_meetings_12 : decode cX0_meetings 12 = .ok (.iload_n 2, 1) := by decide +kernel
theorem dX0_meetings_13 : decode cX0_meetings 13 = .ok (.iconst 1, 1) := by decide +kernel
theorem dX0_meetings_14 : decode cX0_meetings 14 = .ok (.iadd, 1) := by decide +kernel
theorem dX0_meetings_15 : decode cX0_meetings 15 = .ok (.istore_n 3, 1) := by decide +kernel
theorem dX0_meetings_16 : decode cX0_meetings 16 = .ok (.iload_n 3, 1) := by decide +kernel
theorem dX0_meetings_17 : decode cX0_meetings 17 = .ok (.aload_n 0, 1) := by decide +kernel
theorem dX0_meetings_18 : decode cX0_meetings 18 = .ok (.getfield 24, 3) := by decide +kernel
theorem dX0_meetings_21 : decode cX0_meetings 21 = .ok (.if_icmp .ge 30, 3) := by decide +kernel
theorem dX0_meetings_24 : decode cX0_meetings 24 = .ok (.aload_n 0, 1) := by decide +kernel
theorem dX0_meetings_25 : decode cX0_meetings 25 = .ok (.iload_n 2, 1) := by decide +kernel
theorem dX0_meetings_26 : decode cX0_meetings 26 = .ok (.iload_n 3, 1) := by decide +kernel
theorem dX0_meetings_27 : decode cX0_meetings 27 = .ok (.invokevirtual 90, 3) := by decide +kernel
theorem dX0_meetings_30 : decode cX0_meetings 30 = .ok (.ifCond .ne 15, 3) := by decide +kernel
theorem dX0_meetings_33 : decode cX0_meetings 33 = .ok (.aload_n 0, 1) := by decide +kernel
theorem dX0_meetings_34 : decode cX0_meetings 34 = .ok (.iload_n 2, 1) := by decide +kernel
theorem dX0_meetings_35 : decode cX0_meetings 35 = .ok (.iload_n 3, 1) := by decide +kernel
theorem dX0_meetings_36 : decode cX0_meetings 36 = .ok (.invokevirtual 94, 3) := by decide +kernel
theorem dX0_meetings_39 : decode cX0_meetings 39 = .ok (.ifCond .eq 6, 3) := by decide +kernel
theorem dX0_meetings_42 : decode cX0_meetings 42 = .ok (.iinc 1 1, 3) := by decide +kernel
theorem dX0_meetings_45 : decode cX0_meetings 45 = .ok (.iinc 3 1, 3) := by decide +kernel
theorem dX0_meetings_48 : decode cX0_meetings 48 = .ok (.goto (-32), 3) := by decide +kernel
theorem dX0_meetings_51 : decode cX0_meetings 51 = .ok (.iinc 2 1, 3) := by decide +kernel
theorem dX0_meetings_54 : decode cX0_meetings 54 = .ok (.goto (-50), 3) := by decide +kernel
theorem dX0_meetings_57 : decode cX0_meetings 57 = .ok (.iload_n 1, 1) := by decide +kernel
theorem dX0_meetings_58 : decode cX0_meetings 58 = .ok (.ireturn, 1) := by decide +kernel
theorem dX0_areAtOnePoint_0 : decode cX0_areAtOnePoint 0 = .ok (.aload_n 0, 1) := by decide +kernel
theorem dX0_areAtOnePoint_1 : decode cX0_areAtOnePoint 1 = .ok (.getfield 18, 3) := by decide +kernel
theorem dX0_areAtOnePoint_4 : decode cX0_areAtOnePoint 4 = .ok (.iload_n 1, 1) := by decide +kernel
theorem dX0_areAtOnePoint_5 : decode cX0_areAtOnePoint 5 = .ok (.laload, 1) := by decide +kernel
theorem dX0_areAtOnePoint_6 : decode cX0_areAtOnePoint 6 = .ok (.aload_n 0, 1) := by decide +kernel
theorem dX0_areAtOnePoint_7 : decode cX0_areAtOnePoint 7 = .ok (.getfield 18, 3) := by decide +kernel
theorem dX0_areAtOnePoint_10 : decode cX0_areAtOnePoint 10 = .ok (.iload_n 2, 1) := by decide +kernel
theorem dX0_areAtOnePoint_11 : decode cX0_areAtOnePoint 11 = .ok (.laload, 1) := by decide +kernel
theorem dX0_areAtOnePoint_12 : decode cX0_areAtOnePoint 12 = .ok (.lcmp, 1) := by decide +kernel
theorem dX0_areAtOnePoint_13 : decode cX0_areAtOnePoint 13 = .ok (.ifCond .ne 23, 3) := by decide +kernel
theorem dX0_areAtOnePoint_16 : decode cX0_areAtOnePoint 16 = .ok (.aload_n 0, 1) := by decide +kernel
theorem dX0_areAtOnePoint_17 : decode cX0_areAtOnePoint 17 = .ok (.getfield 21, 3) := by decide +kernel
theorem dX0_areAtOnePoint_20 : decode cX0_areAtOnePoint 20 = .ok (.iload_n 1, 1) := by decide +kernel
theorem dX0_areAtOnePoint_21 : decode cX0_areAtOnePoint 21 = .ok (.laload, 1) := by decide +kernel
theorem dX0_areAtOnePoint_22 : decode cX0_areAtOnePoint 22 = .ok (.aload_n 0, 1) := by decide +kernel
theorem dX0_areAtOnePoint_23 : decode cX0_areAtOnePoint 23 = .ok (.getfield 21, 3) := by decide +kernel
theorem dX0_areAtOnePoint_26 : decode cX0_areAtOnePoint 26 = .ok (.iload_n 2, 1) := by decide +kernel
theorem dX0_areAtOnePoint_27 : decode cX0_areAtOnePoint 27 = .ok (.laload, 1) := by decide +kernel
theorem dX0_areAtOnePoint_28 : decode cX0_areAtOnePoint 28 = .ok (.lcmp, 1) := by decide +kernel
theorem dX0_areAtOnePoint_29 : decode cX0_areAtOnePoint 29 = .ok (.ifCond .ne 7, 3) := by decide +kernel
theorem dX0_areAtOnePoint_32 : decode cX0_areAtOnePoint 32 = .ok (.iconst 1, 1) := by decide +kernel
theorem dX0_areAtOnePoint_33 : decode cX0_areAtOnePoint 33 = .ok (.goto 4, 3) := by decide +kernel
theorem dX0_areAtOnePoint_36 : decode cX0_areAtOnePoint 36 = .ok (.iconst 0, 1) := by decide +kernel
theorem dX0_areAtOnePoint_37 : decode cX0_areAtOnePoint 37 = .ok (.ireturn, 1) := by decide +kernel
theorem dX0_isFirstAtItsPoint_0 : decode cX0_isFirstAtItsPoint 0 = .ok (.iconst 0, 1) := by decide +kernel
theorem dX0_isFirstAtItsPoint_1 : decode cX0_isFirstAtItsPoint 1 = .ok (.istore_n 2, 1) := by decide +kernel
theorem dX0_isFirstAtItsPoint_2 : decode cX0_isFirstAtItsPoint 2 = .ok (.iload_n 2, 1) := by decide +kernel
theorem dX0_isFirstAtItsPoint_3 : decode cX0_isFirstAtItsPoint 3 = .ok (.iload_n 1, 1) := by decide +kernel
theorem dX0_isFirstAtItsPoint_4 : decode cX0_isFirstAtItsPoint 4 = .ok (.if_icmp .ge 20, 3) := by decide +kernel
theorem dX0_isFirstAtItsPoint_7 : decode cX0_isFirstAtItsPoint 7 = .ok (.aload_n 0, 1) := by decide +kernel
theorem dX0_isFirstAtItsPoint_8 : decode cX0_isFirstAtItsPoint 8 = .ok (.iload_n 2, 1) := by decide +kernel
theorem dX0_isFirstAtItsPoint_9 : decode cX0_isFirstAtItsPoint 9 = .ok (.iload_n 1, 1) := by decide +kernel
theorem dX0_isFirstAtItsPoint_10 : decode cX0_isFirstAtItsPoint 10 = .ok (.invokevirtual 97, 3) := by decide +kernel
theorem dX0_isFirstAtItsPoint_13 : decode cX0_isFirstAtItsPoint 13 = .ok (.ifCond .eq 5, 3) := by decide +kernel
theorem dX0_isFirstAtItsPoint_16 : decode cX0_isFirstAtItsPoint 16 = .ok (.iconst 0, 1) := by decide +kernel
theorem dX0_isFirstAtItsPoint_17 : decode cX0_isFirstAtItsPoint 17 = .ok (.ireturn, 1) := by decide +kernel
theorem dX0_isFirstAtItsPoint_18 : decode cX0_isFirstAtItsPoint 18 = .ok (.iinc 2 1, 3) := by decide +kernel
theorem dX0_isFirstAtItsPoint_21 : decode cX0_isFirstAtItsPoint 21 = .ok (.goto (-19), 3) := by decide +kernel
theorem dX0_isFirstAtItsPoint_24 : decode cX0_isFirstAtItsPoint 24 = .ok (.iconst 1, 1) := by decide +kernel
theorem dX0_isFirstAtItsPoint_25 : decode cX0_isFirstAtItsPoint 25 = .ok (.ireturn, 1) := by decide +kernel
theorem dX0_isEdgeOfAll_0 : decode cX0_isEdgeOfAll 0 = .ok (.iconst 0, 1) := by decide +kernel
theorem dX0_isEdgeOfAll_1 : decode cX0_isEdgeOfAll 1 = .ok (.istore_n 3, 1) := by decide +kernel
theorem dX0_isEdgeOfAll_2 : decode cX0_isEdgeOfAll 2 = .ok (.iload_n 3, 1) := by decide +kernel
theorem dX0_isEdgeOfAll_3 : decode cX0_isEdgeOfAll 3 = .ok (.aload_n 0, 1) := by decide +kernel
theorem dX0_isEdgeOfAll_4 : decode cX0_isEdgeOfAll 4 = .ok (.getfield 24, 3) := by decide +kernel
theorem dX0_isEdgeOfAll_7 : decode cX0_isEdgeOfAll 7 = .ok (.if_icmp .ge 65, 3) := by decide +kernel
theorem dX0_isEdgeOfAll_10 : decode cX0_isEdgeOfAll 10 = .ok (.aload_n 0, 1) := by decide +kernel
theorem dX0_isEdgeOfAll_11 : decode cX0_isEdgeOfAll 11 = .ok (.iload_n 1, 1) := by decide +kernel
theorem dX0_isEdgeOfAll_12 : decode cX0_isEdgeOfAll 12 = .ok (.iload_n 2, 1) := by decide +kernel
theorem dX0_isEdgeOfAll_13 : decode cX0_isEdgeOfAll 13 = .ok (.iload_n 3, 1) := by decide +kernel
theorem dX0_isEdgeOfAll_14 : decode cX0_isEdgeOfAll 14 = .ok (.invokevirtual 67, 3) := by decide +kernel
theorem dX0_isEdgeOfAll_17 : decode cX0_isEdgeOfAll 17 = .ok (.lstore 4, 2) := by decide +kernel
theorem dX0_isEdgeOfAll_19 : decode cX0_isEdgeOfAll 19 = .ok (.lload 4, 2) := by decide +kernel
theorem dX0_isEdgeOfAll_21 : decode cX0_isEdgeOfAll 21 = .ok (.lconst 0, 1) := by decide +kernel
theorem dX0_isEdgeOfAll_22 : decode cX0_isEdgeOfAll 22 = .ok (.lcmp, 1) := by decide +kernel
theorem dX0_isEdgeOfAll_23 : decode cX0_isEdgeOfAll 23 = .ok (.ifCond .ne 17, 3) := by decide +kernel
theorem dX0_isEdgeOfAll_26 : decode cX0_isEdgeOfAll 26 = .ok (.aload_n 0, 1) := by decide +kernel
theorem dX0_isEdgeOfAll_27 : decode cX0_isEdgeOfAll 27 = .ok (.iload_n 2, 1) := by decide +kernel
theorem dX0_isEdgeOfAll_28 : decode cX0_isEdgeOfAll 28 = .ok (.iload_n 3, 1) := by decide +kernel
theorem dX0_isEdgeOfAll_29 : decode cX0_isEdgeOfAll 29 = .ok (.iload_n 1, 1) := by decide +kernel
theorem dX0_isEdgeOfAll_30 : decode cX0_isEdgeOfAll 30 = .ok (.invokevirtual 77, 3) := by decide +kernel
theorem dX0_isEdgeOfAll_33 : decode cX0_isEdgeOfAll 33 = .ok (.ifCond .ne 7, 3) := by decide +kernel
theorem dX0_isEdgeOfAll_36 : decode cX0_isEdgeOfAll 36 = .ok (.iconst 1, 1) := by decide +kernel
theorem dX0_isEdgeOfAll_37 : decode cX0_isEdgeOfAll 37 = .ok (.goto 4, 3) := by decide +kernel
theorem dX0_isEdgeOfAll_40 : decode cX0_isEdgeOfAll 40 = .ok (.iconst 0, 1) := by decide +kernel
theorem dX0_isEdgeOfAll_41 : decode cX0_isEdgeOfAll 41 = .ok (.istore 6, 2) := by decide +kernel
theorem dX0_isEdgeOfAll_43 : decode cX0_isEdgeOfAll 43 = .ok (.aload_n 0, 1) := by decide +kernel
theorem dX0_isEdgeOfAll_44 : decode cX0_isEdgeOfAll 44 = .ok (.iload_n 1, 1) := by decide +kernel
theorem dX0_isEdgeOfAll_45 : decode cX0_isEdgeOfAll 45 = .ok (.iload_n 3, 1) := by decide +kernel
theorem dX0_isEdgeOfAll_46 : decode cX0_isEdgeOfAll 46 = .ok (.invokevirtual 97, 3) := by decide +kernel
theorem dX0_isEdgeOfAll_49 : decode cX0_isEdgeOfAll 49 = .ok (.ifCond .ne 17, 3) := by decide +kernel
theorem dX0_isEdgeOfAll_52 : decode cX0_isEdgeOfAll 52 = .ok (.lload 4, 2) := by decide +kernel
theorem dX0_isEdgeOfAll_54 : decode cX0_isEdgeOfAll 54 = .ok (.lconst 0, 1) := by decide +kernel
theorem dX0_isEdgeOfAll_55 : decode cX0_isEdgeOfAll 55 = .ok (.lcmp, 1) := by decide +kernel
theorem dX0_isEdgeOfAll_56 : decode cX0_isEdgeOfAll 56 = .ok (.ifCond .gt 10, 3) := by decide +kernel
theorem dX0_isEdgeOfAll_59 : decode cX0_isEdgeOfAll 59 = .ok (.iload 6, 2) := by decide +kernel
theorem dX0_isEdgeOfAll_61 : decode cX0_isEdgeOfAll 61 = .ok (.ifCond .ne 5, 3) := by decide +kernel
theorem dX0_isEdgeOfAll_64 : decode cX0_isEdgeOfAll 64 = .ok (.iconst 0, 1) := by decide +kernel
theorem dX0_isEdgeOfAll_65 : decode cX0_isEdgeOfAll 65 = .ok (.ireturn, 1) := by decide +kernel
theorem dX0_isEdgeOfAll_66 : decode cX0_isEdgeOfAll 66 = .ok (.iinc 3 1, 3) := by decide +kernel
theorem dX0_isEdgeOfAll_69 : decode cX0_isEdgeOfAll 69 = .ok (.goto (-67), 3) := by decide +kernel
theorem dX0_isEdgeOfAll_72 : decode cX0_isEdgeOfAll 72 = .ok (.iconst 1, 1) := by decide +kernel
theorem dX0_isEdgeOfAll_73 : decode cX0_isEdgeOfAll 73 = .ok (.ireturn, 1) := by decide +kernel
theorem dX0_isAtOutline_0 : decode cX0_isAtOutline 0 = .ok (.iconst 1, 1) := by decide +kernel
theorem dX0_isAtOutline_1 : decode cX0_isAtOutline 1 = .ok (.istore_n 2, 1) := by decide +kernel
theorem dX0_isAtOutline_2 : decode cX0_isAtOutline 2 = .ok (.iconst 0, 1) := by decide +kernel
theorem dX0_isAtOutline_3 : decode cX0_isAtOutline 3 = .ok (.istore_n 3, 1) := by decide +kernel
theorem dX0_isAtOutline_4 : decode cX0_isAtOutline 4 = .ok (.iload_n 3, 1) := by decide +kernel
theorem dX0_isAtOutline_5 : decode cX0_isAtOutline 5 = .ok (.aload_n 0, 1) := by decide +kernel
theorem dX0_isAtOutline_6 : decode cX0_isAtOutline 6 = .ok (.getfield 24, 3) := by decide +kernel
theorem dX0_isAtOutline_9 : decode cX0_isAtOutline 9 = .ok (.if_icmp .ge 31, 3) := by decide +kernel
theorem dX0_isAtOutline_12 : decode cX0_isAtOutline 12 = .ok (.aload_n 0, 1) := by decide +kernel
theorem dX0_isAtOutline_13 : decode cX0_isAtOutline 13 = .ok (.iload_n 1, 1) := by decide +kernel
theorem dX0_isAtOutline_14 : decode cX0_isAtOutline 14 = .ok (.iload_n 3, 1) := by decide +kernel
theorem dX0_isAtOutline_15 : decode cX0_isAtOutline 15 = .ok (.invokevirtual 97, 3) := by decide +kernel
theorem dX0_isAtOutline_18 : decode cX0_isAtOutline 18 = .ok (.ifCond .ne 16, 3) := by decide +kernel
theorem dX0_isAtOutline_21 : decode cX0_isAtOutline 21 = .ok (.iconst 0, 1) := by decide +kernel
theorem dX0_isAtOutline_22 : decode cX0_isAtOutline 22 = .ok (.istore_n 2, 1) := by decide +kernel
theorem dX0_isAtOutline_23 : decode cX0_isAtOutline 23 = .ok (.aload_n 0, 1) := by decide +kernel
theorem dX0_isAtOutline_24 : decode cX0_isAtOutline 24 = .ok (.iload_n 1, 1) := by decide +kernel
theorem dX0_isAtOutline_25 : decode cX0_isAtOutline 25 = .ok (.iload_n 3, 1) := by decide +kernel
theorem dX0_isAtOutline_26 : decode cX0_isAtOutline 26 = .ok (.invokevirtual 100, 3) := by decide +kernel
theorem dX0_isAtOutline_29 : decode cX0_isAtOutline 29 = .ok (.ifCond .eq 5, 3) := by decide +kernel
theorem dX0_isAtOutline_32 : decode cX0_isAtOutline 32 = .ok (.iconst 1, 1) := by decide +kernel
theorem dX0_isAtOutline_33 : decode cX0_isAtOutline 33 = .ok (.ireturn, 1) := by decide +kernel
theorem dX0_isAtOutline_34 : decode cX0_isAtOutline 34 = .ok (.iinc 3 1, 3) := by decide +kernel
theorem dX0_isAtOutline_37 : decode cX0_isAtOutline 37 = .ok (.goto (-33), 3) := by decide +kernel
theorem dX0_isAtOutline_40 : decode cX0_isAtOutline 40 = .ok (.iload_n 2, 1) := by decide +kernel
theorem dX0_isAtOutline_41 : decode cX0_isAtOutline 41 = .ok (.ireturn, 1) := by decide +kernel
theorem dX0_outlineBits_0 : decode cX0_outlineBits 0 = .ok (.iconst 0, 1) := by decide +kernel
theorem dX0_outlineBits_1 : decode cX0_outlineBits 1 = .ok (.istore_n 1, 1) := by decide +kernel
theorem dX0_outlineBits_2 : decode cX0_outlineBits 2 = .ok (.iconst 0, 1) := by decide +kernel
theorem dX0_outlineBits_3 : decode cX0_outlineBits 3 = .ok (.istore_n 2, 1) := by decide +kernel
theorem dX0_outlineBits_4 : decode cX0_outlineBits 4 = .ok (.iload_n 2, 1) := by decide +kernel
theorem dX0_outlineBits_5 : decode cX0_outlineBits 5 = .ok (.aload_n 0, 1) := by decide +kernel
theorem dX0_outlineBits_6 : decode cX0_outlineBits 6 = .ok (.getfield 24, 3) := by decide +kernel
theorem dX0_outlineBits_9 : decode cX0_outlineBits 9 = .ok (.if_icmp .ge 31, 3) := by decide +kernel
theorem dX0_outlineBits_12 : decode cX0_outlineBits 12 = .ok (.aload_n 0, 1) := by decide +kernel
theorem dX0_outlineBits_13 : decode cX0_outlineBits 13 = .ok (.iload_n 2, 1) := by decide +kernel
theorem dX0_outlineBits_14 : decode cX0_outlineBits 14 = .ok (.invokevirtual 103, 3) := by decide +kernel
theorem dX0_outlineBits_17 : decode cX0_outlineBits 17 = .ok (.ifCond .eq 17, 3) := by decide +kernel
theorem dX0_outlineBits_20 : decode cX0_outlineBits 20 = .ok (.aload_n 0, 1) := by decide +kernel
theorem dX0_outlineBits_21 : decode cX0_outlineBits 21 = .ok (.iload_n 2, 1) := by decide +kernel
theorem dX0_outlineBits_22 : decode cX0_outlineBits 22 = .ok (.invokevirtual 107, 3) := by decide +kernel
theorem dX0_outlineBits_25 : decode cX0_outlineBits 25 = .ok (.ifCond .eq 9, 3) := by decide +kernel
theorem dX0_outlineBits_28 : decode cX0_outlineBits 28 = .ok (.iload_n 1, 1) := by decide +kernel
theorem dX0_outlineBits_29 : decode cX0_outlineBits 29 = .ok (.iconst 1, 1) := by decide +kernel
theorem dX0_outlineBits_30 : decode cX0_outlineBits 30 = .ok (.iload_n 2, 1) := by decide +kernel
theorem dX0_outlineBits_31 : decode cX0_outlineBits 31 = .ok (.ishl, 1) := by decide +kernel
theorem dX0_outlineBits_32 : decode cX0_outlineBits 32 = .ok (.ior, 1) := by decide +kernel
theorem dX0_outlineBits_33 : decode cX0_outlineBits 33 = .ok (.istore_n 1, 1) := by decide +kernel
theorem dX0_outlineBits_34 : decode cX0_outlineBits 34 = .ok (.iinc 2 1, 3) := by decide +kernel
theorem dX0_outlineBits_37 : decode cX0_outlineBits 37 = .ok (.goto (-33), 3) := by decide +kernel
theorem dX0_outlineBits_40 : decode cX0_outlineBits 40 = .ok (.iload_n 1, 1) := by decide +kernel
theorem dX0_outlineBits_41 : decode cX0_outlineBits 41 = .ok (.ireturn, 1) := by decide +kernel
theorem dX0_hullSum_0 : decode cX0_hullSum 0 = .ok (.aload_n 0, 1) := by decide +kernel
theorem dX0_hullSum_1 : decode cX0_hullSum 1 = .ok (.invokevirtual 110, 3) := by decide +kernel
theorem dX0_hullSum_4 : decode cX0_hullSum 4 = .ok (.istore_n 1, 1) := by decide +kernel
theorem dX0_hullSum_5 : decode cX0_hullSum 5 = .ok (.lconst 0, 1) := by decide +kernel
theorem dX0_hullSum_6 : decode cX0_hullSum 6 = .ok (.lstore_n 2, 1) := by decide +kernel
theorem dX0_hullSum_7 : decode cX0_hullSum 7 = .ok (.iconst 0, 1) := by decide +kernel
theorem dX0_hullSum_8 : decode cX0_hullSum 8 = .ok (.istore 4, 2) := by decide +kernel
theorem dX0_hullSum_10 : decode cX0_hullSum 10 = .ok (.iload 4, 2) := by decide +kernel
theorem dX0_hullSum_12 : decode cX0_hullSum 12 = .ok (.aload_n 0, 1) := by decide +kernel
theorem dX0_hullSum_13 : decode cX0_hullSum 13 = .ok (.getfield 24, 3) := by decide +kernel
theorem dX0_hullSum_16 : decode cX0_hullSum 16 = .ok (.if_icmp .ge 88, 3) := by decide +kernel
theorem dX0_hullSum_19 : decode cX0_hullSum 19 = .ok (.iconst 0, 1) := by decide +kernel
theorem dX0_hullSum_20 : decode cX0_hullSum 20 = .ok (.istore 5, 2) := by decide +kernel
theorem dX0_hullSum_22 : decode cX0_hullSum 22 = .ok (.iload 5, 2) := by decide +kernel
theorem dX0_hullSum_24 : decode cX0_hullSum 24 = .ok (.aload_n 0, 1) := by decide +kernel
theorem dX0_hullSum_25 : decode cX0_hullSum 25 = .ok (.getfield 24, 3) := by decide +kernel
theorem dX0_hullSum_28 : decode cX0_hullSum 28 = .ok (.if_icmp .ge 70, 3) := by decide +kernel
theorem dX0_hullSum_31 : decode cX0_hullSum 31 = .ok (.iload_n 1, 1) := by decide +kernel
theorem dX0_hullSum_32 : decode cX0_hullSum 32 = .ok (.iload 4, 2) := by decide +kernel
theorem dX0_hullSum_34 : decode cX0_hullSum 34 = .ok (.ishr, 1) := by decide +kernel
theorem dX0_hullSum_35 : decode cX0_hullSum 35 = .ok (.iconst 1, 1) := by decide +kernel
theorem dX0_hullSum_36 : decode cX0_hullSum 36 = .ok (.iand, 1) := by decide +kernel
theorem dX0_hullSum_37 : decode cX0_hullSum 37 = .ok (.iconst 1, 1) := by decide +kernel
theorem dX0_hullSum_38 : decode cX0_hullSum 38 = .ok (.if_icmp .ne 17, 3) := by decide +kernel
theorem dX0_hullSum_41 : decode cX0_hullSum 41 = .ok (.iload_n 1, 1) := by decide +kernel
theorem dX0_hullSum_42 : decode cX0_hullSum 42 = .ok (.iload 5, 2) := by decide +kernel
theorem dX0_hullSum_44 : decode cX0_hullSum 44 = .ok (.ishr, 1) := by decide +kernel
theorem dX0_hullSum_45 : decode cX0_hullSum 45 = .ok (.iconst 1, 1) := by decide +kernel
theorem dX0_hullSum_46 : decode cX0_hullSum 46 = .ok (.iand, 1) := by decide +kernel
theorem dX0_hullSum_47 : decode cX0_hullSum 47 = .ok (.iconst 1, 1) := by decide +kernel
theorem dX0_hullSum_48 : decode cX0_hullSum 48 = .ok (.if_icmp .ne 7, 3) := by decide +kernel
theorem dX0_hullSum_51 : decode cX0_hullSum 51 = .ok (.iconst 1, 1) := by decide +kernel
theorem dX0_hullSum_52 : decode cX0_hullSum 52 = .ok (.goto 4, 3) := by decide +kernel
theorem dX0_hullSum_55 : decode cX0_hullSum 55 = .ok (.iconst 0, 1) := by decide +kernel
theorem dX0_hullSum_56 : decode cX0_hullSum 56 = .ok (.istore 6, 2) := by decide +kernel
theorem dX0_hullSum_58 : decode cX0_hullSum 58 = .ok (.iload 4, 2) := by decide +kernel
theorem dX0_hullSum_60 : decode cX0_hullSum 60 = .ok (.iload 5, 2) := by decide +kernel
theorem dX0_hullSum_62 : decode cX0_hullSum 62 = .ok (.if_icmp .eq 30, 3) := by decide +kernel
theorem dX0_hullSum_65 : decode cX0_hullSum 65 = .ok (.iload 6, 2) := by decide +kernel
theorem dX0_hullSum_67 : decode cX0_hullSum 67 = .ok (.ifCond .eq 25, 3) := by decide +kernel
theorem dX0_hullSum_70 : decode cX0_hullSum 70 = .ok (.aload_n 0, 1) := by decide +kernel
theorem dX0_hullSum_71 : decode cX0_hullSum 71 = .ok (.iload 4, 2) := by decide +kernel
theorem dX0_hullSum_73 : decode cX0_hullSum 73 = .ok (.iload 5, 2) := by decide +kernel
theorem dX0_hullSum_75 : decode cX0_hullSum 75 = .ok (.invokevirtual 100, 3) := by decide +kernel
theorem dX0_hullSum_78 : decode cX0_hullSum 78 = .ok (.ifCond .eq 14, 3) := by decide +kernel
theorem dX0_hullSum_81 : decode cX0_hullSum 81 = .ok (.lload_n 2, 1) := by decide +kernel
theorem dX0_hullSum_82 : decode cX0_hullSum 82 = .ok (.aload_n 0, 1) := by decide +kernel
theorem dX0_hullSum_83 : decode cX0_hullSum 83 = .ok (.iload 4, 2) := by decide +kernel
theorem dX0_hullSum_85 : decode cX0_hullSum 85 = .ok (.iload 5, 2) := by decide +kernel
theorem dX0_hullSum_87 : decode cX0_hullSum 87 = .ok (.invokevirtual 63, 3) := by decide +kernel
theorem dX0_hullSum_90 : decode cX0_hullSum 90 = .ok (.ladd, 1) := by decide +kernel
theorem dX0_hullSum_91 : decode cX0_hullSum 91 = .ok (.lstore_n 2, 1) := by decide +kernel
theorem dX0_hullSum_92 : decode cX0_hullSum 92 = .ok (.iinc 5 1, 3) := by decide +kernel
theorem dX0_hullSum_95 : decode cX0_hullSum 95 = .ok (.goto (-73), 3) := by decide +kernel
theorem dX0_hullSum_98 : decode cX0_hullSum 98 = .ok (.iinc 4 1, 3) := by decide +kernel
theorem dX0_hullSum_101 : decode cX0_hullSum 101 = .ok (.goto (-91), 3) := by decide +kernel
theorem dX0_hullSum_104 : decode cX0_hullSum 104 = .ok (.lload_n 2, 1) := by decide +kernel
theorem dX0_hullSum_105 : decode cX0_hullSum 105 = .ok (.lreturn, 1) := by decide +kernel
theorem dX0_parcelSum_0 : decode cX0_parcelSum 0 = .ok (.lconst 0, 1) := by decide +kernel
theorem dX0_parcelSum_1 : decode cX0_parcelSum 1 = .ok (.lstore_n 3, 1) := by decide +kernel
theorem dX0_parcelSum_2 : decode cX0_parcelSum 2 = .ok (.iconst 1, 1) := by decide +kernel
theorem dX0_parcelSum_3 : decode cX0_parcelSum 3 = .ok (.istore 5, 2) := by decide +kernel
theorem dX0_parcelSum_5 : decode cX0_parcelSum 5 = .ok (.iload 5, 2) := by decide +kernel
theorem dX0_parcelSum_7 : decode cX0_parcelSum 7 = .ok (.iload_n 2, 1) := by decide +kernel
theorem dX0_parcelSum_8 : decode cX0_parcelSum 8 = .ok (.if_icmp .gt 35, 3) := by decide +kernel
theorem dX0_parcelSum_11 : decode cX0_parcelSum 11 = .ok (.lload_n 3, 1) := by decide +kernel
theorem dX0_parcelSum_12 : decode cX0_parcelSum 12 = .ok (.aload_n 0, 1) := by decide +kernel
theorem dX0_parcelSum_13 : decode cX0_parcelSum 13 = .ok (.iload_n 1, 1) := by decide +kernel
theorem dX0_parcelSum_14 : decode cX0_parcelSum 14 = .ok (.aload_n 0, 1) := by decide +kernel
theorem dX0_parcelSum_15 : decode cX0_parcelSum 15 = .ok (.iload_n 1, 1) := by decide +kernel
theorem dX0_parcelSum_16 : decode cX0_parcelSum 16 = .ok (.iload 5, 2) := by decide +kernel
theorem dX0_parcelSum_18 : decode cX0_parcelSum 18 = .ok (.iadd, 1) := by decide +kernel
theorem dX0_parcelSum_19 : decode cX0_parcelSum 19 = .ok (.invokevirtual 60, 3) := by decide +kernel
theorem dX0_parcelSum_22 : decode cX0_parcelSum 22 = .ok (.aload_n 0, 1) := by decide +kernel
theorem dX0_parcelSum_23 : decode cX0_parcelSum 23 = .ok (.iload_n 1, 1) := by decide +kernel
theorem dX0_parcelSum_24 : decode cX0_parcelSum 24 = .ok (.iload 5, 2) := by decide +kernel
theorem dX0_parcelSum_26 : decode cX0_parcelSum 26 = .ok (.iadd, 1) := by decide +kernel
theorem dX0_parcelSum_27 : decode cX0_parcelSum 27 = .ok (.iconst 1, 1) := by decide +kernel
theorem dX0_parcelSum_28 : decode cX0_parcelSum 28 = .ok (.iadd, 1) := by decide +kernel
theorem dX0_parcelSum_29 : decode cX0_parcelSum 29 = .ok (.invokevirtual 60, 3) := by decide +kernel
theorem dX0_parcelSum_32 : decode cX0_parcelSum 32 = .ok (.invokevirtual 67, 3) := by decide +kernel
theorem dX0_parcelSum_35 : decode cX0_parcelSum 35 = .ok (.ladd, 1) := by decide +kernel
theorem dX0_parcelSum_36 : decode cX0_parcelSum 36 = .ok (.lstore_n 3, 1) := by decide +kernel
theorem dX0_parcelSum_37 : decode cX0_parcelSum 37 = .ok (.iinc 5 1, 3) := by decide +kernel
theorem dX0_parcelSum_40 : decode cX0_parcelSum 40 = .ok (.goto (-35), 3) := by decide +kernel
theorem dX0_parcelSum_43 : decode cX0_parcelSum 43 = .ok (.lload_n 3, 1) := by decide +kernel
theorem dX0_parcelSum_44 : decode cX0_parcelSum 44 = .ok (.lreturn, 1) := by decide +kernel
theorem dX0_triangleReaching_0 : decode cX0_triangleReaching 0 = .ok (.iconst 1, 1) := by decide +kernel
theorem dX0_triangleReaching_1 : decode cX0_triangleReaching 1 = .ok (.istore 4, 2) := by decide +kernel
theorem dX0_triangleReaching_3 : decode cX0_triangleReaching 3 = .ok (.iload 4, 2) := by decide +kernel
theorem dX0_triangleReaching_5 : decode cX0_triangleReaching 5 = .ok (.aload_n 0, 1) := by decide +kernel
theorem dX0_triangleReaching_6 : decode cX0_triangleReaching 6 = .ok (.getfield 24, 3) := by decide +kernel
theorem dX0_triangleReaching_9 : decode cX0_triangleReaching 9 = .ok (.iconst 2, 1) := by decide +kernel
theorem dX0_triangleReaching_10 : decode cX0_triangleReaching 10 = .ok (.isub, 1) := by decide +kernel
theorem dX0_triangleReaching_11 : decode cX0_triangleReaching 11 = .ok (.if_icmp .gt 65, 3) := by decide +kernel
theorem dX0_triangleReaching_14 : decode cX0_triangleReaching 14 = .ok (.aload_n 0, 1) := by decide +kernel
theorem dX0_triangleReaching_15 : decode cX0_triangleReaching 15 = .ok (.iload_n 1, 1) := by decide +kernel
theorem dX0_triangleReaching_16 : decode cX0_triangleReaching 16 = .ok (.iload 4, 2) := by decide +kernel
theorem dX0_triangleReaching_18 : decode cX0_triangleReaching 18 = .ok (.invokevirtual 113, 3) := by decide +kernel
theorem dX0_triangleReaching_21 : decode cX0_triangleReaching 21 = .ok (.lstore 5, 2) := by decide +kernel
theorem dX0_triangleReaching_23 : decode cX0_triangleReaching 23 = .ok (.lload_n 2, 1) := by decide +kernel
theorem dX0_triangleReaching_24 : decode cX0_triangleReaching 24 = .ok (.lconst 0, 1) := by decide +kernel
theorem dX0_triangleReaching_25 : decode cX0_triangleReaching 25 = .ok (.lcmp, 1) := by decide +kernel
theorem dX0_triangleReaching_26 : decode cX0_triangleReaching 26 = .ok (.ifCond .le 10, 3) := by decide +kernel
theorem dX0_triangleReaching_29 : decode cX0_triangleReaching 29 = .ok (.lload 5, 2) := by decide +kernel
theorem dX0_triangleReaching_31 : decode cX0_triangleReaching 31 = .ok (.lload_n 2, 1) := by decide +kernel
theorem dX0_triangleReaching_32 : decode cX0_triangleReaching 32 = .ok (.lcmp, 1) := by decide +kernel
theorem dX0_triangleReaching_33 : decode cX0_triangleReaching 33 = .ok (.ifCond .ge 16, 3) := by decide +kernel
theorem dX0_triangleReaching_36 : decode cX0_triangleReaching 36 = .ok (.lload_n 2, 1) := by decide +kernel
theorem dX0_triangleReaching_37 : decode cX0_triangleReaching 37 = .ok (.lconst 0, 1) := by decide +kernel
theorem dX0_triangleReaching_38 : decode cX0_triangleReaching 38 = .ok (.lcmp, 1) := by decide +kernel
theorem dX0_triangleReaching_39 : decode cX0_triangleReaching 39 = .ok (.ifCond .ge 14, 3) := by decide +kernel
theorem dX0_triangleReaching_42 : decode cX0_triangleReaching 42 = .ok (.lload 5, 2) := by decide +kernel
theorem dX0_triangleReaching_44 : decode cX0_triangleReaching 44 = .ok (.lload_n 2, 1) := by decide +kernel
theorem dX0_triangleReaching_45 : decode cX0_triangleReaching 45 = .ok (.lcmp, 1) := by decide +kernel
theorem dX0_triangleReaching_46 : decode cX0_triangleReaching 46 = .ok (.ifCond .gt 7, 3) := by decide +kernel
theorem dX0_triangleReaching_49 : decode cX0_triangleReaching 49 = .ok (.iconst 1, 1) := by decide +kernel
theorem dX0_triangleReaching_50 : decode cX0_triangleReaching 50 = .ok (.goto 4, 3) := by decide +kernel
theorem dX0_triangleReaching_53 : decode cX0_triangleReaching 53 = .ok (.iconst 0, 1) := by decide +kernel
theorem dX0_triangleReaching_54 : decode cX0_triangleReaching 54 = .ok (.istore 7, 2) := by decide +kernel
theorem dX0_triangleReaching_56 : decode cX0_triangleReaching 56 = .ok (.lload_n 2, 1) := by decide +kernel
theorem dX0_triangleReaching_57 : decode cX0_triangleReaching 57 = .ok (.lconst 0, 1) := by decide +kernel
theorem dX0_triangleReaching_58 : decode cX0_triangleReaching 58 = .ok (.lcmp, 1) := by decide +kernel
theorem dX0_triangleReaching_59 : decode cX0_triangleReaching 59 = .ok (.ifCond .eq 8, 3) := by decide +kernel
theorem dX0_triangleReaching_62 : decode cX0_triangleReaching 62 = .ok (.iload 7, 2) := by decide +kernel
theorem dX0_triangleReaching_64 : decode cX0_triangleReaching 64 = .ok (.ifCond .eq 6, 3) := by decide +kernel
theorem dX0_triangleReaching_67 : decode cX0_triangleReaching 67 = .ok (.iload 4, 2) := by decide +kernel
theorem dX0_triangleReaching_69 : decode cX0_triangleReaching 69 = .ok (.ireturn, 1) := by decide +kernel
theorem dX0_triangleReaching_70 : decode cX0_triangleReaching 70 = .ok (.iinc 4 1, 3) := by decide +kernel
theorem dX0_triangleReaching_73 : decode cX0_triangleReaching 73 = .ok (.goto (-70), 3) := by decide +kernel
theorem dX0_triangleReaching_76 : decode cX0_triangleReaching 76 = .ok (.bipush (-9), 2) := by decide +kernel
theorem dX0_triangleReaching_78 : decode cX0_triangleReaching 78 = .ok (.ireturn, 1) := by decide +kernel
theorem dX0_toldNumber_0 : decode cX0_toldNumber 0 = .ok (.iload_n 1, 1) := by decide +kernel
theorem dX0_toldNumber_1 : decode cX0_toldNumber 1 = .ok (.iconst 2, 1) := by decide +kernel
theorem dX0_toldNumber_2 : decode cX0_toldNumber 2 = .ok (.irem, 1) := by decide +kernel
theorem dX0_toldNumber_3 : decode cX0_toldNumber 3 = .ok (.ifCond .ne 14, 3) := by decide +kernel
theorem dX0_toldNumber_6 : decode cX0_toldNumber 6 = .ok (.aload_n 0, 1) := by decide +kernel
theorem dX0_toldNumber_7 : decode cX0_toldNumber 7 = .ok (.getfield 18, 3) := by decide +kernel
theorem dX0_toldNumber_10 : decode cX0_toldNumber 10 = .ok (.iload_n 1, 1) := by decide +kernel
theorem dX0_toldNumber_11 : decode cX0_toldNumber 11 = .ok (.iconst 2, 1) := by decide +kernel
theorem dX0_toldNumber_12 : decode cX0_toldNumber 12 = .ok (.idiv, 1) := by decide +kernel
theorem dX0_toldNumber_13 : decode cX0_toldNumber 13 = .ok (.laload, 1) := by decide +kernel
theorem dX0_toldNumber_14 : decode cX0_toldNumber 14 = .ok (.goto 11, 3) := by decide +kernel
theorem dX0_toldNumber_17 : decode cX0_toldNumber 17 = .ok (.aload_n 0, 1) := by decide +kernel
theorem dX0_toldNumber_18 : decode cX0_toldNumber 18 = .ok (.getfield 21, 3) := by decide +kernel
theorem dX0_toldNumber_21 : decode cX0_toldNumber 21 = .ok (.iload_n 1, 1) := by decide +kernel
theorem dX0_toldNumber_22 : decode cX0_toldNumber 22 = .ok (.iconst 2, 1) := by decide +kernel
theorem dX0_toldNumber_23 : decode cX0_toldNumber 23 = .ok (.idiv, 1) := by decide +kernel
theorem dX0_toldNumber_24 : decode cX0_toldNumber 24 = .ok (.laload, 1) := by decide +kernel
theorem dX0_toldNumber_25 : decode cX0_toldNumber 25 = .ok (.lreturn, 1) := by decide +kernel
theorem dX1_init_0 : decode cX1_init 0 = .ok (.aload_n 0, 1) := by decide +kernel
theorem dX1_init_1 : decode cX1_init 1 = .ok (.invokespecial 3, 3) := by decide +kernel
theorem dX1_init_4 : decode cX1_init 4 = .ok (.aload_n 0, 1) := by decide +kernel
theorem dX1_init_5 : decode cX1_init 5 = .ok (.bipush 8, 2) := by decide +kernel
theorem dX1_init_7 : decode cX1_init 7 = .ok (.anewarray 9, 3) := by decide +kernel
theorem dX1_init_10 : decode cX1_init 10 = .ok (.putfield 11, 3) := by decide +kernel
theorem dX1_init_13 : decode cX1_init 13 = .ok (.aload_n 0, 1) := by decide +kernel
theorem dX1_init_14 : decode cX1_init 14 = .ok (.iconst 0, 1) := by decide +kernel
theorem dX1_init_15 : decode cX1_init 15 = .ok (.putfield 17, 3) := by decide +kernel
theorem dX1_init_18 : decode cX1_init 18 = .ok (.aload_n 0, 1) := by decide +kernel
theorem dX1_init_19 : decode cX1_init 19 = .ok (.iconst 0, 1) := by decide +kernel
theorem dX1_init_20 : decode cX1_init 20 = .ok (.putfield 21, 3) := by decide +kernel
theorem dX1_init_23 : decode cX1_init 23 = .ok (.iconst 0, 1) := by decide +kernel
theorem dX1_init_24 : decode cX1_init 24 = .ok (.istore_n 1, 1) := by decide +kernel
theorem dX1_init_25 : decode cX1_init 25 = .ok (.iload_n 1, 1) := by decide +kernel
theorem dX1_init_26 : decode cX1_init 26 = .ok (.bipush 8, 2) := by decide +kernel
theorem dX1_init_28 : decode cX1_init 28 = .ok (.if_icmp .ge 22, 3) := by decide +kernel
theorem dX1_init_31 : decode cX1_init 31 = .ok (.aload_n 0, 1) := by decide +kernel
theorem dX1_init_32 : decode cX1_init 32 = .ok (.getfield 11, 3) := by decide +kernel
theorem dX1_init_35 : decode cX1_init 35 = .ok (.iload_n 1, 1) := by decide +kernel
theorem dX1_init_36 : decode cX1_init 36 = .ok (.new 9, 3) := by decide +kernel
theorem dX1_init_39 : decode cX1_init 39 = .ok (.dup, 1) := by decide +kernel
theorem dX1_init_40 : decode cX1_init 40 = .ok (.invokespecial 24, 3) := by decide +kernel
theorem dX1_init_43 : decode cX1_init 43 = .ok (.aastore, 1) := by decide +kernel
theorem dX1_init_44 : decode cX1_init 44 = .ok (.iinc 1 1, 3) := by decide +kernel
theorem dX1_init_47 : decode cX1_init 47 = .ok (.goto (-22), 3) := by decide +kernel
theorem dX1_init_50 : decode cX1_init 50 = .ok (.return_, 1) := by decide +kernel
theorem dX1_keep_0 : decode cX1_keep 0 = .ok (.aload_n 0, 1) := by decide +kernel
theorem dX1_keep_1 : decode cX1_keep 1 = .ok (.getfield 11, 3) := by decide +kernel
theorem dX1_keep_4 : decode cX1_keep 4 = .ok (.aload_n 0, 1) := by decide +kernel
theorem dX1_keep_5 : decode cX1_keep 5 = .ok (.getfield 17, 3) := by decide +kernel
theorem dX1_keep_8 : decode cX1_keep 8 = .ok (.aaload, 1) := by decide +kernel
theorem dX1_keep_9 : decode cX1_keep 9 = .ok (.aload_n 1, 1) := by decide +kernel
theorem dX1_keep_10 : decode cX1_keep 10 = .ok (.invokevirtual 25, 3) := by decide +kernel
theorem dX1_keep_13 : decode cX1_keep 13 = .ok (.aload_n 0, 1) := by decide +kernel
theorem dX1_keep_14 : decode cX1_keep 14 = .ok (.aload_n 0, 1) := by decide +kernel
theorem dX1_keep_15 : decode cX1_keep 15 = .ok (.getfield 17, 3) := by decide +kernel
theorem dX1_keep_18 : decode cX1_keep 18 = .ok (.iconst 1, 1) := by decide +kernel
theorem dX1_keep_19 : decode cX1_keep 19 = .ok (.iadd, 1) := by decide +kernel
theorem dX1_keep_20 : decode cX1_keep 20 = .ok (.bipush 8, 2) := by decide +kernel
theorem dX1_keep_22 : decode cX1_keep 22 = .ok (.irem, 1) := by decide +kernel
theorem dX1_keep_23 : decode cX1_keep 23 = .ok (.putfield 17, 3) := by decide +kernel
theorem dX1_keep_26 : decode cX1_keep 26 = .ok (.aload_n 0, 1) := by decide +kernel
theorem dX1_keep_27 : decode cX1_keep 27 = .ok (.aload_n 0, 1) := by decide +kernel
theorem dX1_keep_28 : decode cX1_keep 28 = .ok (.getfield 21, 3) := by decide +kernel
theorem dX1_keep_31 : decode cX1_keep 31 = .ok (.iconst 1, 1) := by decide +kernel
theorem dX1_keep_32 : decode cX1_keep 32 = .ok (.iadd, 1) := by decide +kernel
theorem dX1_keep_33 : decode cX1_keep 33 = .ok (.bipush 8, 2) := by decide +kernel
theorem dX1_keep_35 : decode cX1_keep 35 = .ok (.invokestatic 29, 3) := by decide +kernel
theorem dX1_keep_38 : decode cX1_keep 38 = .ok (.putfield 21, 3) := by decide +kernel
theorem dX1_keep_41 : decode cX1_keep 41 = .ok (.return_, 1) := by decide +kernel
theorem dX1_bringBack_0 : decode cX1_bringBack 0 = .ok (.aload_n 0, 1) := by decide +kernel
theorem dX1_bringBack_1 : decode cX1_bringBack 1 = .ok (.aload_n 0, 1) := by decide +kernel
theorem dX1_bringBack_2 : decode cX1_bringBack 2 = .ok (.getfield 17, 3) := by decide +kernel
theorem dX1_bringBack_5 : decode cX1_bringBack 5 = .ok (.bipush 8, 2) := by decide +kernel
theorem dX1_bringBack_7 : decode cX1_bringBack 7 = .ok (.iadd, 1) := by decide +kernel
theorem dX1_bringBack_8 : decode cX1_bringBack 8 = .ok (.iconst 1, 1) := by decide +kernel
theorem dX1_bringBack_9 : decode cX1_bringBack 9 = .ok (.isub, 1) := by decide +kernel
theorem dX1_bringBack_10 : decode cX1_bringBack 10 = .ok (.bipush 8, 2) := by decide +kernel
theorem dX1_bringBack_12 : decode cX1_bringBack 12 = .ok (.irem, 1) := by decide +kernel
theorem dX1_bringBack_13 : decode cX1_bringBack 13 = .ok (.putfield 17, 3) := by decide +kernel
theorem dX1_bringBack_16 : decode cX1_bringBack 16 = .ok (.aload_n 1, 1) := by decide +kernel
theorem dX1_bringBack_17 : decode cX1_bringBack 17 = .ok (.aload_n 0, 1) := by decide +kernel
theorem dX1_bringBack_18 : decode cX1_bringBack 18 = .ok (.getfield 11, 3) := by decide +kernel
theorem dX1_bringBack_21 : decode cX1_bringBack 21 = .ok (.aload_n 0, 1) := by decide +kernel
theorem dX1_bringBack_22 : decode cX1_bringBack 22 = .ok (.getfield 17, 3) := by decide +kernel
theorem dX1_bringBack_25 : decode cX1_bringBack 25 = .ok (.aaload, 1) := by decide +kernel
theorem dX1_bringBack_26 : decode cX1_bringBack 26 = .ok (.invokevirtual 25, 3) := by decide +kernel
theorem dX1_bringBack_29 : decode cX1_bringBack 29 = .ok (.aload_n 0, 1) := by decide +kernel
theorem dX1_bringBack_30 : decode cX1_bringBack 30 = .ok (.dup, 1) := by decide +kernel
theorem dX1_bringBack_31 : decode cX1_bringBack 31 = .ok (.getfield 21, 3) := by decide +kernel
theorem dX1_bringBack_34 : decode cX1_bringBack 34 = .ok (.iconst 1, 1) := by decide +kernel
theorem dX1_bringBack_35 : decode cX1_bringBack 35 = .ok (.isub, 1) := by decide +kernel
theorem dX1_bringBack_36 : decode cX1_bringBack 36 = .ok (.putfield 21, 3) := by decide +kernel
theorem dX1_bringBack_39 : decode cX1_bringBack 39 = .ok (.aload_n 0, 1) := by decide +kernel
theorem dX1_bringBack_40 : decode cX1_bringBack 40 = .ok (.getfield 21, 3) := by decide +kernel
theorem dX1_bringBack_43 : decode cX1_bringBack 43 = .ok (.ireturn, 1) := by decide +kernel
theorem dX2_init_0 : decode cX2_init 0 = .ok (.aload_n 0, 1) := by decide +kernel
theorem dX2_init_1 : decode cX2_init 1 = .ok (.invokespecial 3, 3) := by decide +kernel
theorem dX2_init_4 : decode cX2_init 4 = .ok (.aload_n 0, 1) := by decide +kernel
theorem dX2_init_5 : decode cX2_init 5 = .ok (.iconst 4, 1) := by decide +kernel
theorem dX2_init_6 : decode cX2_init 6 = .ok (.newarray .int, 2) := by decide +kernel
theorem dX2_init_8 : decode cX2_init 8 = .ok (.putfield 11, 3) := by decide +kernel
theorem dX2_init_11 : decode cX2_init 11 = .ok (.aload_n 0, 1) := by decide +kernel
theorem dX2_init_12 : decode cX2_init 12 = .ok (.iconst 0, 1) := by decide +kernel
theorem dX2_init_13 : decode cX2_init 13 = .ok (.putfield 15, 3) := by decide +kernel
theorem dX2_init_16 : decode cX2_init 16 = .ok (.aload_n 0, 1) := by decide +kernel
theorem dX2_init_17 : decode cX2_init 17 = .ok (.iconst 0, 1) := by decide +kernel
theorem dX2_init_18 : decode cX2_init 18 = .ok (.putfield 19, 3) := by decide +kernel
theorem dX2_init_21 : decode cX2_init 21 = .ok (.aload_n 0, 1) := by decide +kernel
theorem dX2_init_22 : decode cX2_init 22 = .ok (.ldc 22, 2) := by decide +kernel
theorem dX2_init_24 : decode cX2_init 24 = .ok (.putfield 24, 3) := by decide +kernel
theorem dX2_init_27 : decode cX2_init 27 = .ok (.aload_n 0, 1) := by decide +kernel
theorem dX2_init_28 : decode cX2_init 28 = .ok (.iconst 0, 1) := by decide +kernel
theorem dX2_init_29 : decode cX2_init 29 = .ok (.putfield 28, 3) := by decide +kernel
theorem dX2_init_32 : decode cX2_init 32 = .ok (.aload_n 0, 1) := by decide +kernel
theorem dX2_init_33 : decode cX2_init 33 = .ok (.iconst 0, 1) := by decide +kernel
theorem dX2_init_34 : decode cX2_init 34 = .ok (.putfield 31, 3) := by decide +kernel
theorem dX2_init_37 : decode cX2_init 37 = .ok (.return_, 1) := by decide +kernel
theorem dX2_read_0 : decode cX2_read 0 = .ok (.aload_n 0, 1) := by decide +kernel
theorem dX2_read_1 : decode cX2_read 1 = .ok (.ldc 22, 2) := by decide +kernel
theorem dX2_read_3 : decode cX2_read 3 = .ok (.putfield 24, 3) := by decide +kernel
theorem dX2_read_6 : decode cX2_read 6 = .ok (.aload_n 0, 1) := by decide +kernel
theorem dX2_read_7 : decode cX2_read 7 = .ok (.iconst 0, 1) := by decide +kernel
theorem dX2_read_8 : decode cX2_read 8 = .ok (.putfield 28, 3) := by decide +kernel
theorem dX2_read_11 : decode cX2_read 11 = .ok (.iconst 0, 1) := by decide +kernel
theorem dX2_read_12 : decode cX2_read 12 = .ok (.istore 4, 2) := by decide +kernel
theorem dX2_read_14 : decode cX2_read 14 = .ok (.iconst 0, 1) := by decide +kernel
theorem dX2_read_15 : decode cX2_read 15 = .ok (.istore 5, 2) := by decide +kernel
theorem dX2_read_17 : decode cX2_read 17 = .ok (.iconst (-1), 1) := by decide +kernel
theorem dX2_read_18 : decode cX2_read 18 = .ok (.istore 6, 2) := by decide +kernel
theorem dX2_read_20 : decode cX2_read 20 = .ok (.iconst 0, 1) := by decide +kernel
theorem dX2_read_21 : decode cX2_read 21 = .ok (.istore 7, 2) := by decide +kernel
theorem dX2_read_23 : decode cX2_read 23 = .ok (.iload 7, 2) := by decide +kernel
theorem dX2_read_25 : decode cX2_read 25 = .ok (.iload_n 2, 1) := by decide +kernel
theorem dX2_read_26 : decode cX2_read 26 = .ok (.if_icmp .ge 65, 3) := by decide +kernel
theorem dX2_read_29 : decode cX2_read 29 = .ok (.aload_n 0, 1) := by decide +kernel
theorem dX2_read_30 : decode cX2_read 30 = .ok (.invokevirtual 35, 3) := by decide +kernel
theorem dX2_read_33 : decode cX2_read 33 = .ok (.ifCond .eq 7, 3) := by decide +kernel
theorem dX2_read_36 : decode cX2_read 36 = .ok (.iload 7, 2) := by decide +kernel
theorem dX2_read_38 : decode cX2_read 38 = .ok (.istore 5, 2) := by decide +kernel
theorem dX2_read_40 : decode cX2_read 40 = .ok (.aload_n 0, 1) := by decide +kernel
theorem dX2_read_41 : decode cX2_read 41 = .ok (.aload_n 1, 1) := by decide +kernel
theorem dX2_read_42 : decode cX2_read 42 = .ok (.iload 7, 2) := by decide +kernel
theorem dX2_read_44 : decode cX2_read 44 = .ok (.iaload, 1) := by decide +kernel
theorem dX2_read_45 : decode cX2_read 45 = .ok (.invokevirtual 39, 3) := by decide +kernel
theorem dX2_read_48 : decode cX2_read 48 = .ok (.ifCond .ne 10, 3) := by decide +kernel
theorem dX2_read_51 : decode cX2_read 51 = .ok (.sipush (-1000), 3) := by decide +kernel
theorem dX2_read_54 : decode cX2_read 54 = .ok (.iload 7, 2) := by decide +kernel
theorem dX2_read_56 : decode cX2_read 56 = .ok (.isub, 1) := by decide +kernel
theorem dX2_read_57 : decode cX2_read 57 = .ok (.ireturn, 1) := by decide +kernel
theorem dX2_read_58 : decode cX2_read 58 = .ok (.aload_n 0, 1) := by decide +kernel
theorem dX2_read_59 : decode cX2_read 59 = .ok (.invokevirtual 35, 3) := by decide +kernel
theorem dX2_read_62 : decode cX2_read 62 = .ok (.ifCond .eq 23, 3) := by decide +kernel
theorem dX2_read_65 : decode cX2_read 65 = .ok (.iinc 4 1, 3) := by decide +kernel
theorem dX2_read_68 : decode cX2_read 68 = .ok (.iload 6, 2) := by decide +kernel
theorem dX2_read_70 : decode cX2_read 70 = .ok (.ifCond .ge 15, 3) := by decide +kernel
theorem dX2_read_73 : decode cX2_read 73 = .ok (.aload_n 0, 1) := by decide +kernel
theorem dX2_read_74 : decode cX2_read 74 = .ok (.aload_n 3, 1) := by decide +kernel
theorem dX2_read_75 : decode cX2_read 75 = .ok (.invokevirtual 43, 3) := by decide +kernel
theorem dX2_read_78 : decode cX2_read 78 = .ok (.ifCond .ne 7, 3) := by decide +kernel
theorem dX2_read_81 : decode cX2_read 81 = .ok (.iload 5, 2) := by decide +kernel
theorem dX2_read_83 : decode cX2_read 83 = .ok (.istore 6, 2) := by decide +kernel
theorem dX2_read_85 : decode cX2_read 85 = .ok (.iinc 7 1, 3) := by decide +kernel
theorem dX2_read_88 : decode cX2_read 88 = .ok (.goto (-65), 3) := by decide +kernel
theorem dX2_read_91 : decode cX2_read 91 = .ok (.iload 4, 2) := by decide +kernel
theorem dX2_read_93 : decode cX2_read 93 = .ok (.ifCond .eq 10, 3) := by decide +kernel
theorem dX2_read_96 : decode cX2_read 96 = .ok (.aload_n 0, 1) := by decide +kernel
theorem dX2_read_97 : decode cX2_read 97 = .ok (.invokevirtual 35, 3) := by decide +kernel
theorem dX2_read_100 : decode cX2_read 100 = .ok (.ifCond .ne 9, 3) := by decide +kernel
theorem dX2_read_103 : decode cX2_read 103 = .ok (.sipush (-1000), 3) := by decide +kernel
theorem dX2_read_106 : decode cX2_read 106 = .ok (.iload_n 2, 1) := by decide +kernel
theorem dX2_read_107 : decode cX2_read 107 = .ok (.isub, 1) := by decide +kernel
theorem dX2_read_108 : decode cX2_read 108 = .ok (.ireturn, 1) := by decide +kernel
theorem dX2_read_109 : decode cX2_read 109 = .ok (.iload 6, 2) := by decide +kernel
theorem dX2_read_111 : decode cX2_read 111 = .ok (.ifCond .ge 8, 3) := by decide +kernel
theorem dX2_read_114 : decode cX2_read 114 = .ok (.iload 4, 2) := by decide +kernel
theorem dX2_read_116 : decode cX2_read 116 = .ok (.goto 9, 3) := by decide +kernel
theorem dX2_read_119 : decode cX2_read 119 = .ok (.sipush (-2000), 3) := by decide +kernel
theorem dX2_read_122 : decode cX2_read 122 = .ok (.iload 6, 2) := by decide +kernel
theorem dX2_read_124 : decode cX2_read 124 = .ok (.isub, 1) := by decide +kernel
theorem dX2_read_125 : decode cX2_read 125 = .ok (.ireturn, 1) := by decide +kernel
theorem dX2_isBetweenStatements_0 : decode cX2_isBetweenStatements 0 = .ok (.aload_n 0, 1) := by decide +kernel
theorem dX2_isBetweenStatements_1 : decode cX2_isBetweenStatements 1 = .ok (.getfield 28, 3) := by decide +kernel
theorem dX2_isBetweenStatements_4 : decode cX2_isBetweenStatements 4 = .ok (.aload_n 0, 1) := by decide +kernel
theorem dX2_isBetweenStatements_5 : decode cX2_isBetweenStatements 5 = .ok (.getfield 24, 3) := by decide +kernel
theorem dX2_isBetweenStatements_8 : decode cX2_isBetweenStatements 8 = .ok (.invokevirtual 47, 3) := by decide +kernel
theorem dX2_isBetweenStatements_11 : decode cX2_isBetweenStatements 11 = .ok (.if_icmp .lt 7, 3) := by decide +kernel
theorem dX2_isBetweenStatements_14 : decode cX2_isBetweenStatements 14 = .ok (.iconst 1, 1) := by decide +kernel
theorem dX2_isBetweenStatements_15 : decode cX2_isBetweenStatements 15 = .ok (.goto 4, 3) := by decide +kernel
theorem dX2_isBetweenStatements_18 : decode cX2_isBetweenStatements 18 = .ok (.iconst 0, 1) := by decide +kernel
theorem dX2_isBetweenStatements_19 : decode cX2_isBetweenStatements 19 = .ok (.ireturn, 1) := by decide +kernel
theorem dX2_takes_0 : decode cX2_takes 0 = .ok (.aload_n 0, 1) := by decide +kernel
theorem dX2_takes_1 : decode cX2_takes 1 = .ok (.invokevirtual 35, 3) := by decide +kernel
theorem dX2_takes_4 : decode cX2_takes 4 = .ok (.ifCond .eq 9, 3) := by decide +kernel
theorem dX2_takes_7 : decode cX2_takes 7 = .ok (.aload_n 0, 1) := by decide +kernel
theorem dX2_takes_8 : decode cX2_takes 8 = .ok (.iload_n 1, 1) := by decide +kernel
theorem dX2_takes_9 : decode cX2_takes 9 = .ok (.invokevirtual 53, 3) := by decide +kernel
theorem dX2_takes_12 : decode cX2_takes 12 = .ok (.ireturn, 1) := by decide +kernel
theorem dX2_takes_13 : decode cX2_takes 13 = .ok (.aload_n 0, 1) := by decide +kernel
theorem dX2_takes_14 : decode cX2_takes 14 = .ok (.getfield 24, 3) := by decide +kernel
theorem dX2_takes_17 : decode cX2_takes 17 = .ok (.aload_n 0, 1) := by decide +kernel
theorem dX2_takes_18 : decode cX2_takes 18 = .ok (.getfield 28, 3) := by decide +kernel
theorem dX2_takes_21 : decode cX2_takes 21 = .ok (.invokevirtual 56, 3) := by decide +kernel
theorem dX2_takes_24 : decode cX2_takes 24 = .ok (.istore_n 2, 1) := by decide +kernel
theorem dX2_takes_25 : decode cX2_takes 25 = .ok (.iload_n 2, 1) := by decide +kernel
theorem dX2_takes_26 : decode cX2_takes 26 = .ok (.bipush 126, 2) := by decide +kernel
theorem dX2_takes_28 : decode cX2_takes 28 = .ok (.if_icmp .ne 23, 3) := by decide +kernel
theorem dX2_takes_31 : decode cX2_takes 31 = .ok (.iload_n 1, 1) := by decide +kernel
theorem dX2_takes_32 : decode cX2_takes 32 = .ok (.bipush 45, 2) := by decide +kernel
theorem dX2_takes_34 : decode cX2_takes 34 = .ok (.if_icmp .ne 17, 3) := by decide +kernel
theorem dX2_takes_37 : decode cX2_takes 37 = .ok (.aload_n 0, 1) := by decide +kernel
theorem dX2_takes_38 : decode cX2_takes 38 = .ok (.getfield 31, 3) := by decide +kernel
theorem dX2_takes_41 : decode cX2_takes 41 = .ok (.ifCond .ne 10, 3) := by decide +kernel
theorem dX2_takes_44 : decode cX2_takes 44 = .ok (.aload_n 0, 1) := by decide +kernel
theorem dX2_takes_45 : decode cX2_takes 45 = .ok (.iconst 1, 1) := by decide +kernel
theorem dX2_takes_46 : decode cX2_takes 46 = .ok (.putfield 31, 3) := by decide +kernel
theorem dX2_takes_49 : decode cX2_takes 49 = .ok (.iconst 1, 1) := by decide +kernel
theorem dX2_takes_50 : decode cX2_takes 50 = .ok (.ireturn, 1) := by decide +kernel
theorem dX2_takes_51 : decode cX2_takes 51 = .ok (.iload_n 2, 1) := by decide +kernel
theorem dX2_takes_52 : decode cX2_takes 52 = .ok (.bipush 126, 2) := by decide +kernel
theorem dX2_takes_54 : decode cX2_takes 54 = .ok (.if_icmp .eq 9, 3) := by decide +kernel
theorem dX2_takes_57 : decode cX2_takes 57 = .ok (.iload_n 2, 1) := by decide +kernel
theorem dX2_takes_58 : decode cX2_takes 58 = .ok (.bipush 35, 2) := by decide +kernel
theorem dX2_takes_60 : decode cX2_takes 60 = .ok (.if_icmp .ne 9, 3) := by decide +kernel
theorem dX2_takes_63 : decode cX2_takes 63 = .ok (.aload_n 0, 1) := by decide +kernel
theorem dX2_takes_64 : decode cX2_takes 64 = .ok (.iload_n 1, 1) := by decide +kernel
theorem dX2_takes_65 : decode cX2_takes 65 = .ok (.invokevirtual 60, 3) := by decide +kernel
theorem dX2_takes_68 : decode cX2_takes 68 = .ok (.ireturn, 1) := by decide +kernel
theorem dX2_takes_69 : decode cX2_takes 69 = .ok (.aload_n 0, 1) := by decide +kernel
theorem dX2_takes_70 : decode cX2_takes 70 = .ok (.dup, 1) := by decide +kernel
theorem dX2_takes_71 : decode cX2_takes 71 = .ok (.getfield 28, 3) := by decide +kernel
theorem dX2_takes_74 : decode cX2_takes 74 = .ok (.iconst 1, 1) := by decide +kernel
theorem dX2_takes_75 : decode cX2_takes 75 = .ok (.iadd, 1) := by decide +kernel
theorem dX2_takes_76 : decode cX2_takes 76 = .ok (.putfield 28, 3) := by decide +kernel
theorem dX2_takes_79 : decode cX2_takes 79 = .ok (.iload_n 1, 1) := by decide +kernel
theorem dX2_takes_80 : decode cX2_takes 80 = .ok (.iload_n 2, 1) := by decide +kernel
theorem dX2_takes_81 : decode cX2_takes 81 = .ok (.if_icmp .ne 7, 3) := by decide +kernel
theorem dX2_takes_84 : decode cX2_takes 84 = .ok (.iconst 1, 1) := by decide +kernel
theorem dX2_takes_85 : decode cX2_takes 85 = .ok (.goto 4, 3) := by decide +kernel
theorem dX2_takes_88 : decode cX2_takes 88 = .ok (.iconst 0, 1) := by decide +kernel
theorem dX2_takes_89 : decode cX2_takes 89 = .ok (.ireturn, 1) := by decide +kernel
theorem dX2_begins_0 : decode cX2_begins 0 = .ok (.aload_n 0, 1) := by decide +kernel
theorem dX2_begins_1 : decode cX2_begins 1 = .ok (.iload_n 1, 1) := by decide +kernel
theorem dX2_begins_2 : decode cX2_begins 2 = .ok (.invokestatic 63, 3) := by decide +kernel
theorem dX2_begins_5 : decode cX2_begins 5 = .ok (.putfield 24, 3) := by decide +kernel
theorem dX2_begins_8 : decode cX2_begins 8 = .ok (.aload_n 0, 1) := by decide +kernel
theorem dX2_begins_9 : decode cX2_begins 9 = .ok (.iload_n 1, 1) := by decide +kernel
theorem dX2_begins_10 : decode cX2_begins 10 = .ok (.putfield 19, 3) := by decide +kernel
theorem dX2_begins_13 : decode cX2_begins 13 = .ok (.aload_n 0, 1) := by decide +kernel
theorem dX2_begins_14 : decode cX2_begins 14 = .ok (.iconst 0, 1) := by decide +kernel
theorem dX2_begins_15 : decode cX2_begins 15 = .ok (.putfield 28, 3) := by decide +kernel
theorem dX2_begins_18 : decode cX2_begins 18 = .ok (.aload_n 0, 1) := by decide +kernel
theorem dX2_begins_19 : decode cX2_begins 19 = .ok (.iconst 0, 1) := by decide +kernel
theorem dX2_begins_20 : decode cX2_begins 20 = .ok (.putfield 15, 3) := by decide +kernel
theorem dX2_begins_23 : decode cX2_begins 23 = .ok (.aload_n 0, 1) := by decide +kernel
theorem dX2_begins_24 : decode cX2_begins 24 = .ok (.iconst 0, 1) := by decide +kernel
theorem dX2_begins_25 : decode cX2_begins 25 = .ok (.putfield 31, 3) := by decide +kernel
theorem dX2_begins_28 : decode cX2_begins 28 = .ok (.aload_n 0, 1) := by decide +kernel
theorem dX2_begins_29 : decode cX2_begins 29 = .ok (.getfield 24, 3) := by decide +kernel
theorem dX2_begins_32 : decode cX2_begins 32 = .ok (.invokevirtual 67, 3) := by decide +kernel
theorem dX2_begins_35 : decode cX2_begins 35 = .ok (.ifCond .ne 7, 3) := by decide +kernel
theorem dX2_begins_38 : decode cX2_begins 38 = .ok (.iconst 1, 1) := by decide +kernel
theorem dX2_begins_39 : decode cX2_begins 39 = .ok (.goto 4, 3) := by decide +kernel
theorem dX2_begins_42 : decode cX2_begins 42 = .ok (.iconst 0, 1) := by decide +kernel
theorem dX2_begins_43 : decode cX2_begins 43 = .ok (.ireturn, 1) := by decide +kernel
theorem dX2_takesDigit_0 : decode cX2_takesDigit 0 = .ok (.iload_n 1, 1) := by decide +kernel
theorem dX2_takesDigit_1 : decode cX2_takesDigit 1 = .ok (.bipush 48, 2) := by decide +kernel
theorem dX2_takesDigit_3 : decode cX2_takesDigit 3 = .ok (.if_icmp .lt 17, 3) := by decide +kernel
theorem dX2_takesDigit_6 : decode cX2_takesDigit 6 = .ok (.iload_n 1, 1) := by decide +kernel
theorem dX2_takesDigit_7 : decode cX2_takesDigit 7 = .ok (.bipush 57, 2) := by decide +kernel
theorem dX2_takesDigit_9 : decode cX2_takesDigit 9 = .ok (.if_icmp .gt 11, 3) := by decide +kernel
theorem dX2_takesDigit_12 : decode cX2_takesDigit 12 = .ok (.aload_n 0, 1) := by decide +kernel
theorem dX2_takesDigit_13 : decode cX2_takesDigit 13 = .ok (.getfield 15, 3) := by decide +kernel
theorem dX2_takesDigit_16 : decode cX2_takesDigit 16 = .ok (.iconst 4, 1) := by decide +kernel
theorem dX2_takesDigit_17 : decode cX2_takesDigit 17 = .ok (.if_icmp .lt 5, 3) := by decide +kernel
theorem dX2_takesDigit_20 : decode cX2_takesDigit 20 = .ok (.iconst 0, 1) := by decide +kernel
theorem dX2_takesDigit_21 : decode cX2_takesDigit 21 = .ok (.ireturn, 1) := by decide +kernel
theorem dX2_takesDigit_22 : decode cX2_takesDigit 22 = .ok (.iload_n 1, 1) := by decide +kernel
theorem dX2_takesDigit_23 : decode cX2_takesDigit 23 = .ok (.bipush 48, 2) := by decide +kernel
theorem dX2_takesDigit_25 : decode cX2_takesDigit 25 = .ok (.isub, 1) := by decide +kernel
theorem dX2_takesDigit_26 : decode cX2_takesDigit 26 = .ok (.istore_n 2, 1) := by decide +kernel
theorem dX2_takesDigit_27 : decode cX2_takesDigit 27 = .ok (.aload_n 0, 1) := by decide +kernel
theorem dX2_takesDigit_28 : decode cX2_takesDigit 28 = .ok (.getfield 11, 3) := by decide +kernel
theorem dX2_takesDigit_31 : decode cX2_takesDigit 31 = .ok (.aload_n 0, 1) := by decide +kernel
theorem dX2_takesDigit_32 : decode cX2_takesDigit 32 = .ok (.getfield 15, 3) := by decide +kernel
theorem dX2_takesDigit_35 : decode cX2_takesDigit 35 = .ok (.aload_n 0, 1) := by decide +kernel
theorem dX2_takesDigit_36 : decode cX2_takesDigit 36 = .ok (.getfield 31, 3) := by decide +kernel
theorem dX2_takesDigit_39 : decode cX2_takesDigit 39 = .ok (.ifCond .eq 8, 3) := by decide +kernel
theorem dX2_takesDigit_42 : decode cX2_takesDigit 42 = .ok (.iload_n 2, 1) := by decide +kernel
theorem dX2_takesDigit_43 : decode cX2_takesDigit 43 = .ok (.ineg, 1) := by decide +kernel
theorem dX2_takesDigit_44 : decode cX2_takesDigit 44 = .ok (.goto 4, 3) := by decide +kernel
theorem dX2_takesDigit_47 : decode cX2_takesDigit 47 = .ok (.iload_n 2, 1) := by decide +kernel
theorem dX2_takesDigit_48 : decode cX2_takesDigit 48 = .ok (.iastore, 1) := by decide +kernel
theorem dX2_takesDigit_49 : decode cX2_takesDigit 49 = .ok (.aload_n 0, 1) := by decide +kernel
theorem dX2_takesDigit_50 : decode cX2_takesDigit 50 = .ok (.dup, 1) := by decide +kernel
theorem dX2_takesDigit_51 : decode cX2_takesDigit 51 = .ok (.getfield 15, 3) := by decide +kernel
theorem dX2_takesDigit_54 : decode cX2_takesDigit 54 = .ok (.iconst 1, 1) := by decide +kernel
theorem dX2_takesDigit_55 : decode cX2_takesDigit 55 = .ok (.iadd, 1) := by decide +kernel
theorem dX2_takesDigit_56 : decode cX2_takesDigit 56 = .ok (.putfield 15, 3) := by decide +kernel
theorem dX2_takesDigit_59 : decode cX2_takesDigit 59 = .ok (.aload_n 0, 1) := by decide +kernel
theorem dX2_takesDigit_60 : decode cX2_takesDigit 60 = .ok (.iconst 0, 1) := by decide +kernel
theorem dX2_takesDigit_61 : decode cX2_takesDigit 61 = .ok (.putfield 31, 3) := by decide +kernel
theorem dX2_takesDigit_64 : decode cX2_takesDigit 64 = .ok (.aload_n 0, 1) := by decide +kernel
theorem dX2_takesDigit_65 : decode cX2_takesDigit 65 = .ok (.dup, 1) := by decide +kernel
theorem dX2_takesDigit_66 : decode cX2_takesDigit 66 = .ok (.getfield 28, 3) := by decide +kernel
theorem dX2_takesDigit_69 : decode cX2_takesDigit 69 = .ok (.iconst 1, 1) := by decide +kernel
theorem dX2_takesDigit_70 : decode cX2_takesDigit 70 = .ok (.iadd, 1) := by decide +kernel
theorem dX2_takesDigit_71 : decode cX2_takesDigit 71 = .ok (.putfield 28, 3) := by decide +kernel
theorem dX2_takesDigit_74 : decode cX2_takesDigit 74 = .ok (.iconst 1, 1) := by decide +kernel
theorem dX2_takesDigit_75 : decode cX2_takesDigit 75 = .ok (.ireturn, 1) := by decide +kernel
theorem dX2_formOf_0 : decode cX2_formOf 0 = .ok (.iload_n 0, 1) := by decide +kernel
theorem dX2_formOf_1 : decode cX2_formOf 1 = .ok (.lookupswitch 66 #[(100, 60), (105, 54), (107, 57), (114, 63), (115, 51)], 51) := by decide +kernel
theorem dX2_formOf_52 : decode cX2_formOf 52 = .ok (.ldc 70, 2) := by decide +kernel
theorem dX2_formOf_54 : decode cX2_formOf 54 = .ok (.areturn, 1) := by decide +kernel
theorem dX2_formOf_55 : decode cX2_formOf 55 = .ok (.ldc 72, 2) := by decide +kernel
theorem dX2_formOf_57 : decode cX2_formOf 57 = .ok (.areturn, 1) := by decide +kernel
theorem dX2_formOf_58 : decode cX2_formOf 58 = .ok (.ldc 74, 2) := by decide +kernel
theorem dX2_formOf_60 : decode cX2_formOf 60 = .ok (.areturn, 1) := by decide +kernel
theorem dX2_formOf_61 : decode cX2_formOf 61 = .ok (.ldc 76, 2) := by decide +kernel
theorem dX2_formOf_63 : decode cX2_formOf 63 = .ok (.areturn, 1) := by decide +kernel
theorem dX2_formOf_64 : decode cX2_formOf 64 = .ok (.ldc 78, 2) := by decide +kernel
theorem dX2_formOf_66 : decode cX2_formOf 66 = .ok (.areturn, 1) := by decide +kernel
theorem dX2_formOf_67 : decode cX2_formOf 67 = .ok (.ldc 22, 2) := by decide +kernel
theorem dX2_formOf_69 : decode cX2_formOf 69 = .ok (.areturn, 1) := by decide +kernel
theorem dX2_comesTo_0 : decode cX2_comesTo 0 = .ok (.aload_n 0, 1) := by decide +kernel
theorem dX2_comesTo_1 : decode cX2_comesTo 1 = .ok (.getfield 19, 3) := by decide +kernel
theorem dX2_comesTo_4 : decode cX2_comesTo 4 = .ok (.lookupswitch 68 #[(100, 62), (105, 50), (107, 56), (115, 44)], 44) := by decide +kernel
theorem dX2_comesTo_48 : decode cX2_comesTo 48 = .ok (.aload_n 0, 1) := by decide +kernel
theorem dX2_comesTo_49 : decode cX2_comesTo 49 = .ok (.aload_n 1, 1) := by decide +kernel
theorem dX2_comesTo_50 : decode cX2_comesTo 50 = .ok (.invokevirtual 80, 3) := by decide +kernel
theorem dX2_comesTo_53 : decode cX2_comesTo 53 = .ok (.ireturn, 1) := by decide +kernel
theorem dX2_comesTo_54 : decode cX2_comesTo 54 = .ok (.aload_n 0, 1) := by decide +kernel
theorem dX2_comesTo_55 : decode cX2_comesTo 55 = .ok (.aload_n 1, 1) := by decide +kernel
theorem dX2_comesTo_56 : decode cX2_comesTo 56 = .ok (.invokevirtual 83, 3) := by decide +kernel
theorem dX2_comesTo_59 : decode cX2_comesTo 59 = .ok (.ireturn, 1) := by decide +kernel
theorem dX2_comesTo_60 : decode cX2_comesTo 60 = .ok (.aload_n 0, 1) := by decide +kernel
theorem dX2_comesTo_61 : decode cX2_comesTo 61 = .ok (.aload_n 1, 1) := by decide +kernel
theorem dX2_comesTo_62 : decode cX2_comesTo 62 = .ok (.invokevirtual 86, 3) := by decide +kernel
theorem dX2_comesTo_65 : decode cX2_comesTo 65 = .ok (.ireturn, 1) := by decide +kernel
theorem dX2_comesTo_66 : decode cX2_comesTo 66 = .ok (.aload_n 0, 1) := by decide +kernel
theorem dX2_comesTo_67 : decode cX2_comesTo 67 = .ok (.aload_n 1, 1) := by decide +kernel
theorem dX2_comesTo_68 : decode cX2_comesTo 68 = .ok (.invokevirtual 89, 3) := by decide +kernel
theorem dX2_comesTo_71 : decode cX2_comesTo 71 = .ok (.ireturn, 1) := by decide +kernel
theorem dX2_comesTo_72 : decode cX2_comesTo 72 = .ok (.aload_n 1, 1) := by decide +kernel
theorem dX2_comesTo_73 : decode cX2_comesTo 73 = .ok (.invokevirtual 92, 3) := by decide +kernel
theorem dX2_comesTo_76 : decode cX2_comesTo 76 = .ok (.pop, 1) := by decide +kernel
theorem dX2_comesTo_77 : decode cX2_comesTo 77 = .ok (.iconst 1, 1) := by decide +kernel
theorem dX2_comesTo_78 : decode cX2_comesTo 78 = .ok (.ireturn, 1) := by decide +kernel
theorem dX2_addsTo_0 : decode cX2_addsTo 0 = .ok (.aload_n 1, 1) := by decide +kernel
theorem dX2_addsTo_1 : decode cX2_addsTo 1 = .ok (.aload_n 0, 1) := by decide +kernel
theorem dX2_addsTo_2 : decode cX2_addsTo 2 = .ok (.getfield 11, 3) := by decide +kernel
theorem dX2_addsTo_5 : decode cX2_addsTo 5 = .ok (.iconst 0, 1) := by decide +kernel
theorem dX2_addsTo_6 : decode cX2_addsTo 6 = .ok (.iaload, 1) := by decide +kernel
theorem dX2_addsTo_7 : decode cX2_addsTo 7 = .ok (.aload_n 0, 1) := by decide +kernel
theorem dX2_addsTo_8 : decode cX2_addsTo 8 = .ok (.getfield 11, 3) := by decide +kernel
theorem dX2_addsTo_11 : decode cX2_addsTo 11 = .ok (.iconst 1, 1) := by decide +kernel
theorem dX2_addsTo_12 : decode cX2_addsTo 12 = .ok (.iaload, 1) := by decide +kernel
theorem dX2_addsTo_13 : decode cX2_addsTo 13 = .ok (.aload_n 0, 1) := by decide +kernel
theorem dX2_addsTo_14 : decode cX2_addsTo 14 = .ok (.getfield 11, 3) := by decide +kernel
theorem dX2_addsTo_17 : decode cX2_addsTo 17 = .ok (.iconst 2, 1) := by decide +kernel
theorem dX2_addsTo_18 : decode cX2_addsTo 18 = .ok (.iaload, 1) := by decide +kernel
theorem dX2_addsTo_19 : decode cX2_addsTo 19 = .ok (.invokevirtual 97, 3) := by decide +kernel
theorem dX2_addsTo_22 : decode cX2_addsTo 22 = .ok (.ifCond .eq 5, 3) := by decide +kernel
theorem dX2_addsTo_25 : decode cX2_addsTo 25 = .ok (.iconst 0, 1) := by decide +kernel
theorem dX2_addsTo_26 : decode cX2_addsTo 26 = .ok (.ireturn, 1) := by decide +kernel
theorem dX2_addsTo_27 : decode cX2_addsTo 27 = .ok (.aload_n 1, 1) := by decide +kernel
theorem dX2_addsTo_28 : decode cX2_addsTo 28 = .ok (.aload_n 1, 1) := by decide +kernel
theorem dX2_addsTo_29 : decode cX2_addsTo 29 = .ok (.getfield 101, 3) := by decide +kernel
theorem dX2_addsTo_32 : decode cX2_addsTo 32 = .ok (.aload_n 0, 1) := by decide +kernel
theorem dX2_addsTo_33 : decode cX2_addsTo 33 = .ok (.getfield 11, 3) := by decide +kernel
theorem dX2_addsTo_36 : decode cX2_addsTo 36 = .ok (.iconst 0, 1) := by decide +kernel
theorem dX2_addsTo_37 : decode cX2_addsTo 37 = .ok (.iaload, 1) := by decide +kernel
theorem dX2_addsTo_38 : decode cX2_addsTo 38 = .ok (.aload_n 0, 1) := by decide +kernel
theorem dX2_addsTo_39 : decode cX2_addsTo 39 = .ok (.getfield 11, 3) := by decide +kernel
theorem dX2_addsTo_42 : decode cX2_addsTo 42 = .ok (.iconst 1, 1) := by decide +kernel
theorem dX2_addsTo_43 : decode cX2_addsTo 43 = .ok (.iaload, 1) := by decide +kernel
theorem dX2_addsTo_44 : decode cX2_addsTo 44 = .ok (.aload_n 0, 1) := by decide +kernel
theorem dX2_addsTo_45 : decode cX2_addsTo 45 = .ok (.getfield 11, 3) := by decide +kernel
theorem dX2_addsTo_48 : decode cX2_addsTo 48 = .ok (.iconst 2, 1) := by decide +kernel
theorem dX2_addsTo_49 : decode cX2_addsTo 49 = .ok (.iaload, 1) := by decide +kernel
theorem dX2_addsTo_50 : decode cX2_addsTo 50 = .ok (.invokevirtual 104, 3) := by decide +kernel
theorem dX2_addsTo_53 : decode cX2_addsTo 53 = .ok (.pop, 1) := by decide +kernel
theorem dX2_addsTo_54 : decode cX2_addsTo 54 = .ok (.iconst 1, 1) := by decide +kernel
theorem dX2_addsTo_55 : decode cX2_addsTo 55 = .ok (.ireturn, 1) := by decide +kernel
theorem dX2_insertsInto_0 : decode cX2_insertsInto 0 = .ok (.aload_n 1, 1) := by decide +kernel
theorem dX2_insertsInto_1 : decode cX2_insertsInto 1 = .ok (.aload_n 0, 1) := by decide +kernel
theorem dX2_insertsInto_2 : decode cX2_insertsInto 2 = .ok (.getfield 11, 3) := by decide +kernel
theorem dX2_insertsInto_5 : decode cX2_insertsInto 5 = .ok (.iconst 0, 1) := by decide +kernel
theorem dX2_insertsInto_6 : decode cX2_insertsInto 6 = .ok (.iaload, 1) := by decide +kernel
theorem dX2_insertsInto_7 : decode cX2_insertsInto 7 = .ok (.aload_n 0, 1) := by decide +kernel
theorem dX2_insertsInto_8 : decode cX2_insertsInto 8 = .ok (.getfield 11, 3) := by decide +kernel
theorem dX2_insertsInto_11 : decode cX2_insertsInto 11 = .ok (.iconst 1, 1) := by decide +kernel
theorem dX2_insertsInto_12 : decode cX2_insertsInto 12 = .ok (.iaload, 1) := by decide +kernel
theorem dX2_insertsInto_13 : decode cX2_insertsInto 13 = .ok (.aload_n 0, 1) := by decide +kernel
theorem dX2_insertsInto_14 : decode cX2_insertsInto 14 = .ok (.getfield 11, 3) := by decide +kernel
theorem dX2_insertsInto_17 : decode cX2_insertsInto 17 = .ok (.iconst 2, 1) := by decide +kernel
theorem dX2_insertsInto_18 : decode cX2_insertsInto 18 = .ok (.iaload, 1) := by decide +kernel
theorem dX2_insertsInto_19 : decode cX2_insertsInto 19 = .ok (.aload_n 0, 1) := by decide +kernel
theorem dX2_insertsInto_20 : decode cX2_insertsInto 20 = .ok (.getfield 11, 3) := by decide +kernel
theorem dX2_insertsInto_23 : decode cX2_insertsInto 23 = .ok (.iconst 3, 1) := by decide +kernel
theorem dX2_insertsInto_24 : decode cX2_insertsInto 24 = .ok (.iaload, 1) := by decide +kernel
theorem dX2_insertsInto_25 : decode cX2_insertsInto 25 = .ok (.invokevirtual 108, 3) := by decide +kernel
theorem dX2_insertsInto_28 : decode cX2_insertsInto 28 = .ok (.ifCond .eq 5, 3) := by decide +kernel
theorem dX2_insertsInto_31 : decode cX2_insertsInto 31 = .ok (.iconst 0, 1) := by decide +kernel
theorem dX2_insertsInto_32 : decode cX2_insertsInto 32 = .ok (.ireturn, 1) := by decide +kernel
theorem dX2_insertsInto_33 : decode cX2_insertsInto 33 = .ok (.aload_n 1, 1) := by decide +kernel
theorem dX2_insertsInto_34 : decode cX2_insertsInto 34 = .ok (.aload_n 0, 1) := by decide +kernel
theorem dX2_insertsInto_35 : decode cX2_insertsInto 35 = .ok (.getfield 11, 3) := by decide +kernel
theorem dX2_insertsInto_38 : decode cX2_insertsInto 38 = .ok (.iconst 0, 1) := by decide +kernel
theorem dX2_insertsInto_39 : decode cX2_insertsInto 39 = .ok (.iaload, 1) := by decide +kernel
theorem dX2_insertsInto_40 : decode cX2_insertsInto 40 = .ok (.aload_n 0, 1) := by decide +kernel
theorem dX2_insertsInto_41 : decode cX2_insertsInto 41 = .ok (.getfield 11, 3) := by decide +kernel
theorem dX2_insertsInto_44 : decode cX2_insertsInto 44 = .ok (.iconst 1, 1) := by decide +kernel
theorem dX2_insertsInto_45 : decode cX2_insertsInto 45 = .ok (.iaload, 1) := by decide +kernel
theorem dX2_insertsInto_46 : decode cX2_insertsInto 46 = .ok (.aload_n 0, 1) := by decide +kernel
theorem dX2_insertsInto_47 : decode cX2_insertsInto 47 = .ok (.getfield 11, 3) := by decide +kernel
theorem dX2_insertsInto_50 : decode cX2_insertsInto 50 = .ok (.iconst 2, 1) := by decide +kernel
theorem dX2_insertsInto_51 : decode cX2_insertsInto 51 = .ok (.iaload, 1) := by decide +kernel
theorem dX2_insertsInto_52 : decode cX2_insertsInto 52 = .ok (.aload_n 0, 1) := by decide +kernel
theorem dX2_insertsInto_53 : decode cX2_insertsInto 53 = .ok (.getfield 11, 3) := by decide +kernel
theorem dX2_insertsInto_56 : decode cX2_insertsInto 56 = .ok (.iconst 3, 1) := by decide +kernel
theorem dX2_insertsInto_57 : decode cX2_insertsInto 57 = .ok (.iaload, 1) := by decide +kernel
theorem dX2_insertsInto_58 : decode cX2_insertsInto 58 = .ok (.invokevirtual 104, 3) := by decide +kernel
theorem dX2_insertsInto_61 : decode cX2_insertsInto 61 = .ok (.pop, 1) := by decide +kernel
theorem dX2_insertsInto_62 : decode cX2_insertsInto 62 = .ok (.iconst 1, 1) := by decide +kernel
theorem dX2_insertsInto_63 : decode cX2_insertsInto 63 = .ok (.ireturn, 1) := by decide +kernel
theorem dX2_changesKind_0 : decode cX2_changesKind 0 = .ok (.aload_n 1, 1) := by decide +kernel
theorem dX2_changesKind_1 : decode cX2_changesKind 1 = .ok (.aload_n 0, 1) := by decide +kernel
theorem dX2_changesKind_2 : decode cX2_changesKind 2 = .ok (.getfield 11, 3) := by decide +kernel
theorem dX2_changesKind_5 : decode cX2_changesKind 5 = .ok (.iconst 0, 1) := by decide +kernel
theorem dX2_changesKind_6 : decode cX2_changesKind 6 = .ok (.iaload, 1) := by decide +kernel
theorem dX2_changesKind_7 : decode cX2_changesKind 7 = .ok (.aload_n 0, 1) := by decide +kernel
theorem dX2_changesKind_8 : decode cX2_changesKind 8 = .ok (.getfield 11, 3) := by decide +kernel
theorem dX2_changesKind_11 : decode cX2_changesKind 11 = .ok (.iconst 1, 1) := by decide +kernel
theorem dX2_changesKind_12 : decode cX2_changesKind 12 = .ok (.iaload, 1) := by decide +kernel
theorem dX2_changesKind_13 : decode cX2_changesKind 13 = .ok (.aload_n 0, 1) := by decide +kernel
theorem dX2_changesKind_14 : decode cX2_changesKind 14 = .ok (.getfield 11, 3) := by decide +kernel
theorem dX2_changesKind_17 : decode cX2_changesKind 17 = .ok (.iconst 2, 1) := by decide +kernel
theorem dX2_changesKind_18 : decode cX2_changesKind 18 = .ok (.iaload, 1) := by decide +kernel
theorem dX2_changesKind_19 : decode cX2_changesKind 19 = .ok (.invokevirtual 111, 3) := by decide +kernel
theorem dX2_changesKind_22 : decode cX2_changesKind 22 = .ok (.ifCond .eq 5, 3) := by decide +kernel
theorem dX2_changesKind_25 : decode cX2_changesKind 25 = .ok (.iconst 0, 1) := by decide +kernel
theorem dX2_changesKind_26 : decode cX2_changesKind 26 = .ok (.ireturn, 1) := by decide +kernel
theorem dX2_changesKind_27 : decode cX2_changesKind 27 = .ok (.aload_n 1, 1) := by decide +kernel
theorem dX2_changesKind_28 : decode cX2_changesKind 28 = .ok (.aload_n 0, 1) := by decide +kernel
theorem dX2_changesKind_29 : decode cX2_changesKind 29 = .ok (.getfield 11, 3) := by decide +kernel
theorem dX2_changesKind_32 : decode cX2_changesKind 32 = .ok (.iconst 0, 1) := by decide +kernel
theorem dX2_changesKind_33 : decode cX2_changesKind 33 = .ok (.iaload, 1) := by decide +kernel
theorem dX2_changesKind_34 : decode cX2_changesKind 34 = .ok (.aload_n 0, 1) := by decide +kernel
theorem dX2_changesKind_35 : decode cX2_changesKind 35 = .ok (.getfield 11, 3) := by decide +kernel
theorem dX2_changesKind_38 : decode cX2_changesKind 38 = .ok (.iconst 1, 1) := by decide +kernel
theorem dX2_changesKind_39 : decode cX2_changesKind 39 = .ok (.iaload, 1) := by decide +kernel
theorem dX2_changesKind_40 : decode cX2_changesKind 40 = .ok (.aload_n 0, 1) := by decide +kernel
theorem dX2_changesKind_41 : decode cX2_changesKind 41 = .ok (.getfield 11, 3) := by decide +kernel
theorem dX2_changesKind_44 : decode cX2_changesKind 44 = .ok (.iconst 2, 1) := by decide +kernel
theorem dX2_changesKind_45 : decode cX2_changesKind 45 = .ok (.iaload, 1) := by decide +kernel
theorem dX2_changesKind_46 : decode cX2_changesKind 46 = .ok (.invokevirtual 114, 3) := by decide +kernel
theorem dX2_changesKind_49 : decode cX2_changesKind 49 = .ok (.pop, 1) := by decide +kernel
theorem dX2_changesKind_50 : decode cX2_changesKind 50 = .ok (.iconst 1, 1) := by decide +kernel
theorem dX2_changesKind_51 : decode cX2_changesKind 51 = .ok (.ireturn, 1) := by decide +kernel
theorem dX2_takesFrom_0 : decode cX2_takesFrom 0 = .ok (.aload_n 1, 1) := by decide +kernel
theorem dX2_takesFrom_1 : decode cX2_takesFrom 1 = .ok (.aload_n 0, 1) := by decide +kernel
theorem dX2_takesFrom_2 : decode cX2_takesFrom 2 = .ok (.getfield 11, 3) := by decide +kernel
theorem dX2_takesFrom_5 : decode cX2_takesFrom 5 = .ok (.iconst 0, 1) := by decide +kernel
theorem dX2_takesFrom_6 : decode cX2_takesFrom 6 = .ok (.iaload, 1) := by decide +kernel
theorem dX2_takesFrom_7 : decode cX2_takesFrom 7 = .ok (.invokevirtual 117, 3) := by decide +kernel
theorem dX2_takesFrom_10 : decode cX2_takesFrom 10 = .ok (.ifCond .ne 5, 3) := by decide +kernel
theorem dX2_takesFrom_13 : decode cX2_takesFrom 13 = .ok (.iconst 0, 1) := by decide +kernel
theorem dX2_takesFrom_14 : decode cX2_takesFrom 14 = .ok (.ireturn, 1) := by decide +kernel
theorem dX2_takesFrom_15 : decode cX2_takesFrom 15 = .ok (.aload_n 1, 1) := by decide +kernel
theorem dX2_takesFrom_16 : decode cX2_takesFrom 16 = .ok (.aload_n 0, 1) := by decide +kernel
theorem dX2_takesFrom_17 : decode cX2_takesFrom 17 = .ok (.getfield 11, 3) := by decide +kernel
theorem dX2_takesFrom_20 : decode cX2_takesFrom 20 = .ok (.iconst 0, 1) := by decide +kernel
theorem dX2_takesFrom_21 : decode cX2_takesFrom 21 = .ok (.iaload, 1) := by decide +kernel
theorem dX2_takesFrom_22 : decode cX2_takesFrom 22 = .ok (.invokevirtual 120, 3) := by decide +kernel
theorem dX2_takesFrom_25 : decode cX2_takesFrom 25 = .ok (.pop, 1) := by decide +kernel
theorem dX2_takesFrom_26 : decode cX2_takesFrom 26 = .ok (.iconst 1, 1) := by decide +kernel
theorem dX2_takesFrom_27 : decode cX2_takesFrom 27 = .ok (.ireturn, 1) := by decide +kernel
theorem dX3_init_0 : decode cX3_init 0 = .ok (.aload_n 0, 1) := by decide +kernel
theorem dX3_init_1 : decode cX3_init 1 = .ok (.invokespecial 3, 3) := by decide +kernel
theorem dX3_init_4 : decode cX3_init 4 = .ok (.aload_n 0, 1) := by decide +kernel
theorem dX3_init_5 : decode cX3_init 5 = .ok (.bipush 20, 2) := by decide +kernel
theorem dX3_init_7 : decode cX3_init 7 = .ok (.newarray .long, 2) := by decide +kernel
theorem dX3_init_9 : decode cX3_init 9 = .ok (.putfield 9, 3) := by decide +kernel
theorem dX3_init_12 : decode cX3_init 12 = .ok (.aload_n 0, 1) := by decide +kernel
theorem dX3_init_13 : decode cX3_init 13 = .ok (.iconst (-1), 1) := by decide +kernel
theorem dX3_init_14 : decode cX3_init 14 = .ok (.putfield 15, 3) := by decide +kernel
theorem dX3_init_17 : decode cX3_init 17 = .ok (.aload_n 0, 1) := by decide +kernel
theorem dX3_init_18 : decode cX3_init 18 = .ok (.iconst 0, 1) := by decide +kernel
theorem dX3_init_19 : decode cX3_init 19 = .ok (.putfield 19, 3) := by decide +kernel
theorem dX3_init_22 : decode cX3_init 22 = .ok (.return_, 1) := by decide +kernel
theorem dX3_isMissing_0 : decode cX3_isMissing 0 = .ok (.aload_n 0, 1) := by decide +kernel
theorem dX3_isMissing_1 : decode cX3_isMissing 1 = .ok (.getfield 15, 3) := by decide +kernel
theorem dX3_isMissing_4 : decode cX3_isMissing 4 = .ok (.ifCond .ge 7, 3) := by decide +kernel
theorem dX3_isMissing_7 : decode cX3_isMissing 7 = .ok (.iconst 1, 1) := by decide +kernel
theorem dX3_isMissing_8 : decode cX3_isMissing 8 = .ok (.goto 4, 3) := by decide +kernel
theorem dX3_isMissing_11 : decode cX3_isMissing 11 = .ok (.iconst 0, 1) := by decide +kernel
theorem dX3_isMissing_12 : decode cX3_isMissing 12 = .ok (.ireturn, 1) := by decide +kernel
theorem dX3_has_0 : decode cX3_has 0 = .ok (.iload_n 1, 1) := by decide +kernel
theorem dX3_has_1 : decode cX3_has 1 = .ok (.ifCond .lt 15, 3) := by decide +kernel
theorem dX3_has_4 : decode cX3_has 4 = .ok (.iload_n 1, 1) := by decide +kernel
theorem dX3_has_5 : decode cX3_has 5 = .ok (.aload_n 0, 1) := by decide +kernel
theorem dX3_has_6 : decode cX3_has 6 = .ok (.getfield 15, 3) := by decide +kernel
theorem dX3_has_9 : decode cX3_has 9 = .ok (.if_icmp .ge 7, 3) := by decide +kernel
theorem dX3_has_12 : decode cX3_has 12 = .ok (.iconst 1, 1) := by decide +kernel
theorem dX3_has_13 : decode cX3_has 13 = .ok (.goto 4, 3) := by decide +kernel
theorem dX3_has_16 : decode cX3_has 16 = .ok (.iconst 0, 1) := by decide +kernel
theorem dX3_has_17 : decode cX3_has 17 = .ok (.ireturn, 1) := by decide +kernel
theorem dX3_hasAll_0 : decode cX3_hasAll 0 = .ok (.iload_n 1, 1) := by decide +kernel
theorem dX3_hasAll_1 : decode cX3_hasAll 1 = .ok (.ifCond .lt 29, 3) := by decide +kernel
theorem dX3_hasAll_4 : decode cX3_hasAll 4 = .ok (.iload_n 2, 1) := by decide +kernel
theorem dX3_hasAll_5 : decode cX3_hasAll 5 = .ok (.ifCond .lt 25, 3) := by decide +kernel
theorem dX3_hasAll_8 : decode cX3_hasAll 8 = .ok (.iload_n 2, 1) := by decide +kernel
theorem dX3_hasAll_9 : decode cX3_hasAll 9 = .ok (.aload_n 0, 1) := by decide +kernel
theorem dX3_hasAll_10 : decode cX3_hasAll 10 = .ok (.getfield 15, 3) := by decide +kernel
theorem dX3_hasAll_13 : decode cX3_hasAll 13 = .ok (.if_icmp .gt 17, 3) := by decide +kernel
theorem dX3_hasAll_16 : decode cX3_hasAll 16 = .ok (.iload_n 1, 1) := by decide +kernel
theorem dX3_hasAll_17 : decode cX3_hasAll 17 = .ok (.aload_n 0, 1) := by decide +kernel
theorem dX3_hasAll_18 : decode cX3_hasAll 18 = .ok (.getfield 15, 3) := by decide +kernel
theorem dX3_hasAll_21 : decode cX3_hasAll 21 = .ok (.iload_n 2, 1) := by decide +kernel
theorem dX3_hasAll_22 : decode cX3_hasAll 22 = .ok (.isub, 1) := by decide +kernel
theorem dX3_hasAll_23 : decode cX3_hasAll 23 = .ok (.if_icmp .gt 7, 3) := by decide +kernel
theorem dX3_hasAll_26 : decode cX3_hasAll 26 = .ok (.iconst 1, 1) := by decide +kernel
theorem dX3_hasAll_27 : decode cX3_hasAll 27 = .ok (.goto 4, 3) := by decide +kernel
theorem dX3_hasAll_30 : decode cX3_hasAll 30 = .ok (.iconst 0, 1) := by decide +kernel
theorem dX3_hasAll_31 : decode cX3_hasAll 31 = .ok (.ireturn, 1) := by decide +kernel
theorem dX3_become_0 : decode cX3_become 0 = .ok (.aload_n 0, 1) := by decide +kernel
theorem dX3_become_1 : decode cX3_become 1 = .ok (.iload_n 1, 1) := by decide +kernel
theorem dX3_become_2 : decode cX3_become 2 = .ok (.putfield 19, 3) := by decide +kernel
theorem dX3_become_5 : decode cX3_become 5 = .ok (.aload_n 0, 1) := by decide +kernel
theorem dX3_become_6 : decode cX3_become 6 = .ok (.iload_n 2, 1) := by decide +kernel
theorem dX3_become_7 : decode cX3_become 7 = .ok (.putfield 15, 3) := by decide +kernel
theorem dX3_become_10 : decode cX3_become 10 = .ok (.iconst 0, 1) := by decide +kernel
theorem dX3_become_11 : decode cX3_become 11 = .ok (.istore_n 3, 1) := by decide +kernel
theorem dX3_become_12 : decode cX3_become 12 = .ok (.iload_n 3, 1) := by decide +kernel
theorem dX3_become_13 : decode cX3_become 13 = .ok (.iload_n 2, 1) := by decide +kernel
theorem dX3_become_14 : decode cX3_become 14 = .ok (.if_icmp .ge 16, 3) := by decide +kernel
theorem dX3_become_17 : decode cX3_become 17 = .ok (.aload_n 0, 1) := by decide +kernel
theorem dX3_become_18 : decode cX3_become 18 = .ok (.getfield 9, 3) := by decide +kernel
theorem dX3_become_21 : decode cX3_become 21 = .ok (.iload_n 3, 1) := by decide +kernel
theorem dX3_become_22 : decode cX3_become 22 = .ok (.lconst 0, 1) := by decide +kernel
theorem dX3_become_23 : decode cX3_become 23 = .ok (.lastore, 1) := by decide +kernel
theorem dX3_become_24 : decode cX3_become 24 = .ok (.iinc 3 1, 3) := by decide +kernel
theorem dX3_become_27 : decode cX3_become 27 = .ok (.goto (-15), 3) := by decide +kernel
theorem dX3_become_30 : decode cX3_become 30 = .ok (.return_, 1) := by decide +kernel
theorem dX3_set_0 : decode cX3_set 0 = .ok (.aload_n 0, 1) := by decide +kernel
theorem dX3_set_1 : decode cX3_set 1 = .ok (.iload_n 1, 1) := by decide +kernel
theorem dX3_set_2 : decode cX3_set 2 = .ok (.invokevirtual 23, 3) := by decide +kernel
theorem dX3_set_5 : decode cX3_set 5 = .ok (.ifCond .ne 5, 3) := by decide +kernel
theorem dX3_set_8 : decode cX3_set 8 = .ok (.iconst 0, 1) := by decide +kernel
theorem dX3_set_9 : decode cX3_set 9 = .ok (.ireturn, 1) := by decide +kernel
theorem dX3_set_10 : decode cX3_set 10 = .ok (.aload_n 0, 1) := by decide +kernel
theorem dX3_set_11 : decode cX3_set 11 = .ok (.getfield 9, 3) := by decide +kernel
theorem dX3_set_14 : decode cX3_set 14 = .ok (.iload_n 1, 1) := by decide +kernel
theorem dX3_set_15 : decode cX3_set 15 = .ok (.aload_n 0, 1) := by decide +kernel
theorem dX3_set_16 : decode cX3_set 16 = .ok (.getfield 19, 3) := by decide +kernel
theorem dX3_set_19 : decode cX3_set 19 = .ok (.ifCond .eq 9, 3) := by decide +kernel
theorem dX3_set_22 : decode cX3_set 22 = .ok (.lload_n 2, 1) := by decide +kernel
theorem dX3_set_23 : decode cX3_set 23 = .ok (.l2i, 1) := by decide +kernel
theorem dX3_set_24 : decode cX3_set 24 = .ok (.i2l, 1) := by decide +kernel
theorem dX3_set_25 : decode cX3_set 25 = .ok (.goto 4, 3) := by decide +kernel
theorem dX3_set_28 : decode cX3_set 28 = .ok (.lload_n 2, 1) := by decide +kernel
theorem dX3_set_29 : decode cX3_set 29 = .ok (.lastore, 1) := by decide +kernel
theorem dX3_set_30 : decode cX3_set 30 = .ok (.iconst 1, 1) := by decide +kernel
theorem dX3_set_31 : decode cX3_set 31 = .ok (.ireturn, 1) := by decide +kernel
theorem dX4_init_0 : decode cX4_init 0 = .ok (.aload_n 0, 1) := by decide +kernel
theorem dX4_init_1 : decode cX4_init 1 = .ok (.invokespecial 3, 3) := by decide +kernel
theorem dX4_init_4 : decode cX4_init 4 = .ok (.aload_n 0, 1) := by decide +kernel
theorem dX4_init_5 : decode cX4_init 5 = .ok (.bipush 8, 2) := by decide +kernel
theorem dX4_init_7 : decode cX4_init 7 = .ok (.newarray .int, 2) := by decide +kernel
theorem dX4_init_9 : decode cX4_init 9 = .ok (.putfield 9, 3) := by decide +kernel
theorem dX4_init_12 : decode cX4_init 12 = .ok (.aload_n 0, 1) := by decide +kernel
theorem dX4_init_13 : decode cX4_init 13 = .ok (.bipush 8, 2) := by decide +kernel
theorem dX4_init_15 : decode cX4_init 15 = .ok (.newarray .int, 2) := by decide +kernel
theorem dX4_init_17 : decode cX4_init 17 = .ok (.putfield 15, 3) := by decide +kernel
theorem dX4_init_20 : decode cX4_init 20 = .ok (.aload_n 0, 1) := by decide +kernel
theorem dX4_init_21 : decode cX4_init 21 = .ok (.bipush 8, 2) := by decide +kernel
theorem dX4_init_23 : decode cX4_init 23 = .ok (.newarray .int, 2) := by decide +kernel
theorem dX4_init_25 : decode cX4_init 25 = .ok (.putfield 18, 3) := by decide +kernel
theorem dX4_init_28 : decode cX4_init 28 = .ok (.aload_n 0, 1) := by decide +kernel
theorem dX4_init_29 : decode cX4_init 29 = .ok (.bipush 8, 2) := by decide +kernel
theorem dX4_init_31 : decode cX4_init 31 = .ok (.newarray .int, 2) := by decide +kernel
theorem dX4_init_33 : decode cX4_init 33 = .ok (.putfield 21, 3) := by decide +kernel
theorem dX4_init_36 : decode cX4_init 36 = .ok (.aload_n 0, 1) := by decide +kernel
theorem dX4_init_37 : decode cX4_init 37 = .ok (.bipush 8, 2) := by decide +kernel
theorem dX4_init_39 : decode cX4_init 39 = .ok (.newarray .int, 2) := by decide +kernel
theorem dX4_init_41 : decode cX4_init 41 = .ok (.putfield 24, 3) := by decide +kernel
theorem dX4_init_44 : decode cX4_init 44 = .ok (.aload_n 0, 1) := by decide +kernel
theorem dX4_init_45 : decode cX4_init 45 = .ok (.iconst 0, 1) := by decide +kernel
theorem dX4_init_46 : decode cX4_init 46 = .ok (.putfield 27, 3) := by decide +kernel
theorem dX4_init_49 : decode cX4_init 49 = .ok (.return_, 1) := by decide +kernel
theorem dX4_has_0 : decode cX4_has 0 = .ok (.iload_n 1, 1) := by decide +kernel
theorem dX4_has_1 : decode cX4_has 1 = .ok (.ifCond .lt 15, 3) := by decide +kernel
theorem dX4_has_4 : decode cX4_has 4 = .ok (.iload_n 1, 1) := by decide +kernel
theorem dX4_has_5 : decode cX4_has 5 = .ok (.aload_n 0, 1) := by decide +kernel
theorem dX4_has_6 : decode cX4_has 6 = .ok (.getfield 27, 3) := by decide +kernel
theorem dX4_has_9 : decode cX4_has 9 = .ok (.if_icmp .ge 7, 3) := by decide +kernel
theorem dX4_has_12 : decode cX4_has 12 = .ok (.iconst 1, 1) := by decide +kernel
theorem dX4_has_13 : decode cX4_has 13 = .ok (.goto 4, 3) := by decide +kernel
theorem dX4_has_16 : decode cX4_has 16 = .ok (.iconst 0, 1) := by decide +kernel
theorem dX4_has_17 : decode cX4_has 17 = .ok (.ireturn, 1) := by decide +kernel
theorem dX4_all_0 : decode cX4_all 0 = .ok (.iconst 1, 1) := by decide +kernel
theorem dX4_all_1 : decode cX4_all 1 = .ok (.aload_n 0, 1) := by decide +kernel
theorem dX4_all_2 : decode cX4_all 2 = .ok (.getfield 27, 3) := by decide +kernel
theorem dX4_all_5 : decode cX4_all 5 = .ok (.ishl, 1) := by decide +kernel
theorem dX4_all_6 : decode cX4_all 6 = .ok (.iconst 1, 1) := by decide +kernel
theorem dX4_all_7 : decode cX4_all 7 = .ok (.isub, 1) := by decide +kernel
theorem dX4_all_8 : decode cX4_all 8 = .ok (.ireturn, 1) := by decide +kernel
theorem dX4_allBut_0 : decode cX4_allBut 0 = .ok (.aload_n 0, 1) := by decide +kernel
theorem dX4_allBut_1 : decode cX4_allBut 1 = .ok (.invokevirtual 31, 3) := by decide +kernel
theorem dX4_allBut_4 : decode cX4_allBut 4 = .ok (.iconst 1, 1) := by decide +kernel
theorem dX4_allBut_5 : decode cX4_allBut 5 = .ok (.iload_n 1, 1) := by decide +kernel
theorem dX4_allBut_6 : decode cX4_allBut 6 = .ok (.ishl, 1) := by decide +kernel
theorem dX4_allBut_7 : decode cX4_allBut 7 = .ok (.iconst (-1), 1) := by decide +kernel
theorem dX4_allBut_8 : decode cX4_allBut 8 = .ok (.ixor, 1) := by decide +kernel
theorem dX4_allBut_9 : decode cX4_allBut 9 = .ok (.iand, 1) := by decide +kernel
theorem dX4_allBut_10 : decode cX4_allBut 10 = .ok (.ireturn, 1) := by decide +kernel
theorem dX4_become_0 : decode cX4_become 0 = .ok (.aload_n 0, 1) := by decide +kernel
theorem dX4_become_1 : decode cX4_become 1 = .ok (.aload_n 1, 1) := by decide +kernel
theorem dX4_become_2 : decode cX4_become 2 = .ok (.getfield 27, 3) := by decide +kernel
theorem dX4_become_5 : decode cX4_become 5 = .ok (.putfield 27, 3) := by decide +kernel
theorem dX4_become_8 : decode cX4_become 8 = .ok (.iconst 0, 1) := by decide +kernel
theorem dX4_become_9 : decode cX4_become 9 = .ok (.istore_n 2, 1) := by decide +kernel
theorem dX4_become_10 : decode cX4_become 10 = .ok (.iload_n 2, 1) := by decide +kernel
theorem dX4_become_11 : decode cX4_become 11 = .ok (.aload_n 0, 1) := by decide +kernel
theorem dX4_become_12 : decode cX4_become 12 = .ok (.getfield 27, 3) := by decide +kernel
theorem dX4_become_15 : decode cX4_become 15 = .ok (.if_icmp .ge 69, 3) := by decide +kernel
theorem dX4_become_18 : decode cX4_become 18 = .ok (.aload_n 0, 1) := by decide +kernel
theorem dX4_become_19 : decode cX4_become 19 = .ok (.getfield 9, 3) := by decide +kernel
theorem dX4_become_22 : decode cX4_become 22 = .ok (.iload_n 2, 1) := by decide +kernel
theorem dX4_become_23 : decode cX4_become 23 = .ok (.aload_n 1, 1) := by decide +kernel
theorem dX4_become_24 : decode cX4_become 24 = .ok (.getfield 9, 3) := by decide +kernel
theorem dX4_become_27 : decode cX4_become 27 = .ok (.iload_n 2, 1) := by decide +kernel
theorem dX4_become_28 : decode cX4_become 28 = .ok (.iaload, 1) := by decide +kernel
theorem dX4_become_29 : decode cX4_become 29 = .ok (.iastore, 1) := by decide +kernel
theorem dX4_become_30 : decode cX4_become 30 = .ok (.aload_n 0, 1) := by decide +kernel
theorem dX4_become_31 : decode cX4_become 31 = .ok (.getfield 15, 3) := by decide +kernel
theorem dX4_become_34 : decode cX4_become 34 = .ok (.iload_n 2, 1) := by decide +kernel
theorem dX4_become_35 : decode cX4_become 35 = .ok (.aload_n 1, 1) := by decide +kernel
theorem dX4_become_36 : decode cX4_become 36 = .ok (.getfield 15, 3) := by decide +kernel
theorem dX4_become_39 : decode cX4_become 39 = .ok (.iload_n 2, 1) := by decide +kernel
theorem dX4_become_40 : decode cX4_become 40 = .ok (.iaload, 1) := by decide +kernel
theorem dX4_become_41 : decode cX4_become 41 = .ok (.iastore, 1) := by decide +kernel
theorem dX4_become_42 : decode cX4_become 42 = .ok (.aload_n 0, 1) := by decide +kernel
theorem dX4_become_43 : decode cX4_become 43 = .ok (.getfield 18, 3) := by decide +kernel
theorem dX4_become_46 : decode cX4_become 46 = .ok (.iload_n 2, 1) := by decide +kernel
theorem dX4_become_47 : decode cX4_become 47 = .ok (.aload_n 1, 1) := by decide +kernel
theorem dX4_become_48 : decode cX4_become 48 = .ok (.getfield 18, 3) := by decide +kernel
theorem dX4_become_51 : decode cX4_become 51 = .ok (.iload_n 2, 1) := by decide +kernel
theorem dX4_become_52 : decode cX4_become 52 = .ok (.iaload, 1) := by decide +kernel
theorem dX4_become_53 : decode cX4_become 53 = .ok (.iastore, 1) := by decide +kernel
theorem dX4_become_54 : decode cX4_become 54 = .ok (.aload_n 0, 1) := by decide +kernel
theorem dX4_become_55 : decode cX4_become 55 = .ok (.getfield 21, 3) := by decide +kernel
theorem dX4_become_58 : decode cX4_become 58 = .ok (.iload_n 2, 1) := by decide +kernel
theorem dX4_become_59 : decode cX4_become 59 = .ok (.aload_n 1, 1) := by decide +kernel
theorem dX4_become_60 : decode cX4_become 60 = .ok (.getfield 21, 3) := by decide +kernel
theorem dX4_become_63 : decode cX4_become 63 = .ok (.iload_n 2, 1) := by decide +kernel
theorem dX4_become_64 : decode cX4_become 64 = .ok (.iaload, 1) := by decide +kernel
theorem dX4_become_65 : decode cX4_become 65 = .ok (.iastore, 1) := by decide +kernel
theorem dX4_become_66 : decode cX4_become 66 = .ok (.aload_n 0, 1) := by decide +kernel
theorem dX4_become_67 : decode cX4_become 67 = .ok (.getfield 24, 3) := by decide +kernel
theorem dX4_become_70 : decode cX4_become 70 = .ok (.iload_n 2, 1) := by decide +kernel
theorem dX4_become_71 : decode cX4_become 71 = .ok (.aload_n 1, 1) := by decide +kernel
theorem dX4_become_72 : decode cX4_become 72 = .ok (.getfield 24, 3) := by decide +kernel
theorem dX4_become_75 : decode cX4_become 75 = .ok (.iload_n 2, 1) := by decide +kernel
theorem dX4_become_76 : decode cX4_become 76 = .ok (.iaload, 1) := by decide +kernel
theorem dX4_become_77 : decode cX4_become 77 = .ok (.iastore, 1) := by decide +kernel
theorem dX4_become_78 : decode cX4_become 78 = .ok (.iinc 2 1, 3) := by decide +kernel
theorem dX4_become_81 : decode cX4_become 81 = .ok (.goto (-71), 3) := by decide +kernel
theorem dX4_become_84 : decode cX4_become 84 = .ok (.return_, 1) := by decide +kernel
theorem dX4_refusalOfMore_0 : decode cX4_refusalOfMore 0 = .ok (.iload_n 1, 1) := by decide +kernel
theorem dX4_refusalOfMore_1 : decode cX4_refusalOfMore 1 = .ok (.bipush (-9), 2) := by decide +kernel
theorem dX4_refusalOfMore_3 : decode cX4_refusalOfMore 3 = .ok (.if_icmp .lt 14, 3) := by decide +kernel
theorem dX4_refusalOfMore_6 : decode cX4_refusalOfMore 6 = .ok (.iload_n 2, 1) := by decide +kernel
theorem dX4_refusalOfMore_7 : decode cX4_refusalOfMore 7 = .ok (.bipush (-9), 2) := by decide +kernel
theorem dX4_refusalOfMore_9 : decode cX4_refusalOfMore 9 = .ok (.if_icmp .lt 8, 3) := by decide +kernel
theorem dX4_refusalOfMore_12 : decode cX4_refusalOfMore 12 = .ok (.iload_n 3, 1) := by decide +kernel
theorem dX4_refusalOfMore_13 : decode cX4_refusalOfMore 13 = .ok (.iconst 1, 1) := by decide +kernel
theorem dX4_refusalOfMore_14 : decode cX4_refusalOfMore 14 = .ok (.if_icmp .ge 6, 3) := by decide +kernel
theorem dX4_refusalOfMore_17 : decode cX4_refusalOfMore 17 = .ok (.bipush (-4), 2) := by decide +kernel
theorem dX4_refusalOfMore_19 : decode cX4_refusalOfMore 19 = .ok (.ireturn, 1) := by decide +kernel
theorem dX4_refusalOfMore_20 : decode cX4_refusalOfMore 20 = .ok (.iload_n 1, 1) := by decide +kernel
theorem dX4_refusalOfMore_21 : decode cX4_refusalOfMore 21 = .ok (.bipush 9, 2) := by decide +kernel
theorem dX4_refusalOfMore_23 : decode cX4_refusalOfMore 23 = .ok (.if_icmp .gt 24, 3) := by decide +kernel
theorem dX4_refusalOfMore_26 : decode cX4_refusalOfMore 26 = .ok (.iload_n 2, 1) := by decide +kernel
theorem dX4_refusalOfMore_27 : decode cX4_refusalOfMore 27 = .ok (.bipush 9, 2) := by decide +kernel
theorem dX4_refusalOfMore_29 : decode cX4_refusalOfMore 29 = .ok (.if_icmp .gt 18, 3) := by decide +kernel
theorem dX4_refusalOfMore_32 : decode cX4_refusalOfMore 32 = .ok (.iload_n 3, 1) := by decide +kernel
theorem dX4_refusalOfMore_33 : decode cX4_refusalOfMore 33 = .ok (.bipush 9, 2) := by decide +kernel
theorem dX4_refusalOfMore_35 : decode cX4_refusalOfMore 35 = .ok (.if_icmp .gt 12, 3) := by decide +kernel
theorem dX4_refusalOfMore_38 : decode cX4_refusalOfMore 38 = .ok (.aload_n 0, 1) := by decide +kernel
theorem dX4_refusalOfMore_39 : decode cX4_refusalOfMore 39 = .ok (.getfield 27, 3) := by decide +kernel
theorem dX4_refusalOfMore_42 : decode cX4_refusalOfMore 42 = .ok (.bipush 8, 2) := by decide +kernel
theorem dX4_refusalOfMore_44 : decode cX4_refusalOfMore 44 = .ok (.if_icmp .lt 6, 3) := by decide +kernel
theorem dX4_refusalOfMore_47 : decode cX4_refusalOfMore 47 = .ok (.bipush (-6), 2) := by decide +kernel
theorem dX4_refusalOfMore_49 : decode cX4_refusalOfMore 49 = .ok (.ireturn, 1) := by decide +kernel
theorem dX4_refusalOfMore_50 : decode cX4_refusalOfMore 50 = .ok (.iload_n 1, 1) := by decide +kernel
theorem dX4_refusalOfMore_51 : decode cX4_refusalOfMore 51 = .ok (.ifCond .ne 12, 3) := by decide +kernel
theorem dX4_refusalOfMore_54 : decode cX4_refusalOfMore 54 = .ok (.iload_n 2, 1) := by decide +kernel
theorem dX4_refusalOfMore_55 : decode cX4_refusalOfMore 55 = .ok (.ifCond .ne 8, 3) := by decide +kernel
theorem dX4_refusalOfMore_58 : decode cX4_refusalOfMore 58 = .ok (.bipush (-3), 2) := by decide +kernel
theorem dX4_refusalOfMore_60 : decode cX4_refusalOfMore 60 = .ok (.goto 4, 3) := by decide +kernel
theorem dX4_refusalOfMore_63 : decode cX4_refusalOfMore 63 = .ok (.iconst 0, 1) := by decide +kernel
theorem dX4_refusalOfMore_64 : decode cX4_refusalOfMore 64 = .ok (.ireturn, 1) := by decide +kernel
theorem dX4_refusalOfAhead_0 : decode cX4_refusalOfAhead 0 = .ok (.aload_n 0, 1) := by decide +kernel
theorem dX4_refusalOfAhead_1 : decode cX4_refusalOfAhead 1 = .ok (.iload_n 1, 1) := by decide +kernel
theorem dX4_refusalOfAhead_2 : decode cX4_refusalOfAhead 2 = .ok (.invokevirtual 35, 3) := by decide +kernel
theorem dX4_refusalOfAhead_5 : decode cX4_refusalOfAhead 5 = .ok (.ifCond .eq 14, 3) := by decide +kernel
theorem dX4_refusalOfAhead_8 : decode cX4_refusalOfAhead 8 = .ok (.aload_n 0, 1) := by decide +kernel
theorem dX4_refusalOfAhead_9 : decode cX4_refusalOfAhead 9 = .ok (.iload_n 2, 1) := by decide +kernel
theorem dX4_refusalOfAhead_10 : decode cX4_refusalOfAhead 10 = .ok (.iload_n 3, 1) := by decide +kernel
theorem dX4_refusalOfAhead_11 : decode cX4_refusalOfAhead 11 = .ok (.iload 4, 2) := by decide +kernel
theorem dX4_refusalOfAhead_13 : decode cX4_refusalOfAhead 13 = .ok (.invokevirtual 39, 3) := by decide +kernel
theorem dX4_refusalOfAhead_16 : decode cX4_refusalOfAhead 16 = .ok (.goto 4, 3) := by decide +kernel
theorem dX4_refusalOfAhead_19 : decode cX4_refusalOfAhead 19 = .ok (.iconst (-1), 1) := by decide +kernel
theorem dX4_refusalOfAhead_20 : decode cX4_refusalOfAhead 20 = .ok (.ireturn, 1) := by decide +kernel
theorem dX4_refusalOfKind_0 : decode cX4_refusalOfKind 0 = .ok (.aload_n 0, 1) := by decide +kernel
theorem dX4_refusalOfKind_1 : decode cX4_refusalOfKind 1 = .ok (.iload_n 1, 1) := by decide +kernel
theorem dX4_refusalOfKind_2 : decode cX4_refusalOfKind 2 = .ok (.invokevirtual 35, 3) := by decide +kernel
theorem dX4_refusalOfKind_5 : decode cX4_refusalOfKind 5 = .ok (.ifCond .ne 5, 3) := by decide +kernel
theorem dX4_refusalOfKind_8 : decode cX4_refusalOfKind 8 = .ok (.iconst (-1), 1) := by decide +kernel
theorem dX4_refusalOfKind_9 : decode cX4_refusalOfKind 9 = .ok (.ireturn, 1) := by decide +kernel
theorem dX4_refusalOfKind_10 : decode cX4_refusalOfKind 10 = .ok (.iload_n 2, 1) := by decide +kernel
theorem dX4_refusalOfKind_11 : decode cX4_refusalOfKind 11 = .ok (.ifCond .lt 8, 3) := by decide +kernel
theorem dX4_refusalOfKind_14 : decode cX4_refusalOfKind 14 = .ok (.iload_n 2, 1) := by decide +kernel
theorem dX4_refusalOfKind_15 : decode cX4_refusalOfKind 15 = .ok (.iconst 5, 1) := by decide +kernel
theorem dX4_refusalOfKind_16 : decode cX4_refusalOfKind 16 = .ok (.if_icmp .le 6, 3) := by decide +kernel
theorem dX4_refusalOfKind_19 : decode cX4_refusalOfKind 19 = .ok (.bipush (-2), 2) := by decide +kernel
theorem dX4_refusalOfKind_21 : decode cX4_refusalOfKind 21 = .ok (.ireturn, 1) := by decide +kernel
theorem dX4_refusalOfKind_22 : decode cX4_refusalOfKind 22 = .ok (.iload_n 3, 1) := by decide +kernel
theorem dX4_refusalOfKind_23 : decode cX4_refusalOfKind 23 = .ok (.ifCond .ge 6, 3) := by decide +kernel
theorem dX4_refusalOfKind_26 : decode cX4_refusalOfKind 26 = .ok (.bipush (-4), 2) := by decide +kernel
theorem dX4_refusalOfKind_28 : decode cX4_refusalOfKind 28 = .ok (.ireturn, 1) := by decide +kernel
theorem dX4_refusalOfKind_29 : decode cX4_refusalOfKind 29 = .ok (.iload_n 3, 1) := by decide +kernel
theorem dX4_refusalOfKind_30 : decode cX4_refusalOfKind 30 = .ok (.bipush 9, 2) := by decide +kernel
theorem dX4_refusalOfKind_32 : decode cX4_refusalOfKind 32 = .ok (.if_icmp .le 8, 3) := by decide +kernel
theorem dX4_refusalOfKind_35 : decode cX4_refusalOfKind 35 = .ok (.bipush (-6), 2) := by decide +kernel
theorem dX4_refusalOfKind_37 : decode cX4_refusalOfKind 37 = .ok (.goto 4, 3) := by decide +kernel
theorem dX4_refusalOfKind_40 : decode cX4_refusalOfKind 40 = .ok (.iconst 0, 1) := by decide +kernel
theorem dX4_refusalOfKind_41 : decode cX4_refusalOfKind 41 = .ok (.ireturn, 1) := by decide +kernel
theorem dX4_open_0 : decode cX4_open 0 = .ok (.aload_n 0, 1) := by decide +kernel
theorem dX4_open_1 : decode cX4_open 1 = .ok (.getfield 27, 3) := by decide +kernel
theorem dX4_open_4 : decode cX4_open 4 = .ok (.istore 5, 2) := by decide +kernel
theorem dX4_open_6 : decode cX4_open 6 = .ok (.iload 5, 2) := by decide +kernel
theorem dX4_open_8 : decode cX4_open 8 = .ok (.iload_n 1, 1) := by decide +kernel
theorem dX4_open_9 : decode cX4_open 9 = .ok (.if_icmp .le 19, 3) := by decide +kernel
theorem dX4_open_12 : decode cX4_open 12 = .ok (.aload_n 0, 1) := by decide +kernel
theorem dX4_open_13 : decode cX4_open 13 = .ok (.iload 5, 2) := by decide +kernel
theorem dX4_open_15 : decode cX4_open 15 = .ok (.iconst 1, 1) := by decide +kernel
theorem dX4_open_16 : decode cX4_open 16 = .ok (.isub, 1) := by decide +kernel
theorem dX4_open_17 : decode cX4_open 17 = .ok (.iload 5, 2) := by decide +kernel
theorem dX4_open_19 : decode cX4_open 19 = .ok (.invokevirtual 43, 3) := by decide +kernel
theorem dX4_open_22 : decode cX4_open 22 = .ok (.iinc 5 (-1), 3) := by decide +kernel
theorem dX4_open_25 : decode cX4_open 25 = .ok (.goto (-19), 3) := by decide +kernel
theorem dX4_open_28 : decode cX4_open 28 = .ok (.aload_n 0, 1) := by decide +kernel
theorem dX4_open_29 : decode cX4_open 29 = .ok (.getfield 9, 3) := by decide +kernel
theorem dX4_open_32 : decode cX4_open 32 = .ok (.iload_n 1, 1) := by decide +kernel
theorem dX4_open_33 : decode cX4_open 33 = .ok (.iconst 0, 1) := by decide +kernel
theorem dX4_open_34 : decode cX4_open 34 = .ok (.iastore, 1) := by decide +kernel
theorem dX4_open_35 : decode cX4_open 35 = .ok (.aload_n 0, 1) := by decide +kernel
theorem dX4_open_36 : decode cX4_open 36 = .ok (.getfield 15, 3) := by decide +kernel
theorem dX4_open_39 : decode cX4_open 39 = .ok (.iload_n 1, 1) := by decide +kernel
theorem dX4_open_40 : decode cX4_open 40 = .ok (.iconst 0, 1) := by decide +kernel
theorem dX4_open_41 : decode cX4_open 41 = .ok (.iastore, 1) := by decide +kernel
theorem dX4_open_42 : decode cX4_open 42 = .ok (.aload_n 0, 1) := by decide +kernel
theorem dX4_open_43 : decode cX4_open 43 = .ok (.getfield 18, 3) := by decide +kernel
theorem dX4_open_46 : decode cX4_open 46 = .ok (.iload_n 1, 1) := by decide +kernel
theorem dX4_open_47 : decode cX4_open 47 = .ok (.iload_n 2, 1) := by decide +kernel
theorem dX4_open_48 : decode cX4_open 48 = .ok (.iastore, 1) := by decide +kernel
theorem dX4_open_49 : decode cX4_open 49 = .ok (.aload_n 0, 1) := by decide +kernel
theorem dX4_open_50 : decode cX4_open 50 = .ok (.getfield 21, 3) := by decide +kernel
theorem dX4_open_53 : decode cX4_open 53 = .ok (.iload_n 1, 1) := by decide +kernel
theorem dX4_open_54 : decode cX4_open 54 = .ok (.iload_n 3, 1) := by decide +kernel
theorem dX4_open_55 : decode cX4_open 55 = .ok (.iastore, 1) := by decide +kernel
theorem dX4_open_56 : decode cX4_open 56 = .ok (.aload_n 0, 1) := by decide +kernel
theorem dX4_open_57 : decode cX4_open 57 = .ok (.getfield 24, 3) := by decide +kernel
theorem dX4_open_60 : decode cX4_open 60 = .ok (.iload_n 1, 1) := by decide +kernel
theorem dX4_open_61 : decode cX4_open 61 = .ok (.iload 4, 2) := by decide +kernel
theorem dX4_open_63 : decode cX4_open 63 = .ok (.iastore, 1) := by decide +kernel
theorem dX4_open_64 : decode cX4_open 64 = .ok (.aload_n 0, 1) := by decide +kernel
theorem dX4_open_65 : decode cX4_open 65 = .ok (.dup, 1) := by decide +kernel
theorem dX4_open_66 : decode cX4_open 66 = .ok (.getfield 27, 3) := by decide +kernel
theorem dX4_open_69 : decode cX4_open 69 = .ok (.iconst 1, 1) := by decide +kernel
theorem dX4_open_70 : decode cX4_open 70 = .ok (.iadd, 1) := by decide +kernel
theorem dX4_open_71 : decode cX4_open 71 = .ok (.putfield 27, 3) := by decide +kernel
theorem dX4_open_74 : decode cX4_open 74 = .ok (.iload_n 1, 1) := by decide +kernel
theorem dX4_open_75 : decode cX4_open 75 = .ok (.ireturn, 1) := by decide +kernel
theorem dX4_become__0 : decode cX4_become_ 0 = .ok (.bipush 10, 2) := by decide +kernel
theorem dX4_become__2 : decode cX4_become_ 2 = .ok (.aload_n 0, 1) := by decide +kernel
theorem dX4_become__3 : decode cX4_become_ 3 = .ok (.getfield 9, 3) := by decide +kernel
theorem dX4_become__6 : decode cX4_become_ 6 = .ok (.iload_n 1, 1) := by decide +kernel
theorem dX4_become__7 : decode cX4_become_ 7 = .ok (.iaload, 1) := by decide +kernel
theorem dX4_become__8 : decode cX4_become_ 8 = .ok (.imul, 1) := by decide +kernel
theorem dX4_become__9 : decode cX4_become_ 9 = .ok (.aload_n 0, 1) := by decide +kernel
theorem dX4_become__10 : decode cX4_become_ 10 = .ok (.getfield 15, 3) := by decide +kernel
theorem dX4_become__13 : decode cX4_become_ 13 = .ok (.iload_n 1, 1) := by decide +kernel
theorem dX4_become__14 : decode cX4_become_ 14 = .ok (.iaload, 1) := by decide +kernel
theorem dX4_become__15 : decode cX4_become_ 15 = .ok (.iadd, 1) := by decide +kernel
theorem dX4_become__16 : decode cX4_become_ 16 = .ok (.istore 4, 2) := by decide +kernel
theorem dX4_become__18 : decode cX4_become_ 18 = .ok (.aload_n 0, 1) := by decide +kernel
theorem dX4_become__19 : decode cX4_become_ 19 = .ok (.getfield 9, 3) := by decide +kernel
theorem dX4_become__22 : decode cX4_become_ 22 = .ok (.iload_n 1, 1) := by decide +kernel
theorem dX4_become__23 : decode cX4_become_ 23 = .ok (.iload_n 2, 1) := by decide +kernel
theorem dX4_become__24 : decode cX4_become_ 24 = .ok (.iastore, 1) := by decide +kernel
theorem dX4_become__25 : decode cX4_become_ 25 = .ok (.aload_n 0, 1) := by decide +kernel
theorem dX4_become__26 : decode cX4_become_ 26 = .ok (.getfield 15, 3) := by decide +kernel
theorem dX4_become__29 : decode cX4_become_ 29 = .ok (.iload_n 1, 1) := by decide +kernel
theorem dX4_become__30 : decode cX4_become_ 30 = .ok (.iload_n 3, 1) := by decide +kernel
theorem dX4_become__31 : decode cX4_become_ 31 = .ok (.iastore, 1) := by decide +kernel
theorem dX4_become__32 : decode cX4_become_ 32 = .ok (.iload 4, 2) := by decide +kernel
theorem dX4_become__34 : decode cX4_become_ 34 = .ok (.ireturn, 1) := by decide +kernel
theorem dX4_close_0 : decode cX4_close 0 = .ok (.aload_n 0, 1) := by decide +kernel
theorem dX4_close_1 : decode cX4_close 1 = .ok (.dup, 1) := by decide +kernel
theorem dX4_close_2 : decode cX4_close 2 = .ok (.getfield 27, 3) := by decide +kernel
theorem dX4_close_5 : decode cX4_close 5 = .ok (.iconst 1, 1) := by decide +kernel
theorem dX4_close_6 : decode cX4_close 6 = .ok (.isub, 1) := by decide +kernel
theorem dX4_close_7 : decode cX4_close 7 = .ok (.putfield 27, 3) := by decide +kernel
theorem dX4_close_10 : decode cX4_close 10 = .ok (.iload_n 1, 1) := by decide +kernel
theorem dX4_close_11 : decode cX4_close 11 = .ok (.istore_n 2, 1) := by decide +kernel
theorem dX4_close_12 : decode cX4_close 12 = .ok (.iload_n 2, 1) := by decide +kernel
theorem dX4_close_13 : decode cX4_close 13 = .ok (.aload_n 0, 1) := by decide +kernel
theorem dX4_close_14 : decode cX4_close 14 = .ok (.getfield 27, 3) := by decide +kernel
theorem dX4_close_17 : decode cX4_close 17 = .ok (.if_icmp .ge 17, 3) := by decide +kernel
theorem dX4_close_20 : decode cX4_close 20 = .ok (.aload_n 0, 1) := by decide +kernel
theorem dX4_close_21 : decode cX4_close 21 = .ok (.iload_n 2, 1) := by decide +kernel
theorem dX4_close_22 : decode cX4_close 22 = .ok (.iconst 1, 1) := by decide +kernel
theorem dX4_close_23 : decode cX4_close 23 = .ok (.iadd, 1) := by decide +kernel
theorem dX4_close_24 : decode cX4_close 24 = .ok (.iload_n 2, 1) := by decide +kernel
theorem dX4_close_25 : decode cX4_close 25 = .ok (.invokevirtual 43, 3) := by decide +kernel
theorem dX4_close_28 : decode cX4_close 28 = .ok (.iinc 2 1, 3) := by decide +kernel
theorem dX4_close_31 : decode cX4_close 31 = .ok (.goto (-19), 3) := by decide +kernel
theorem dX4_close_34 : decode cX4_close 34 = .ok (.aload_n 0, 1) := by decide +kernel
theorem dX4_close_35 : decode cX4_close 35 = .ok (.getfield 27, 3) := by decide +kernel
theorem dX4_close_38 : decode cX4_close 38 = .ok (.ireturn, 1) := by decide +kernel
theorem dX4_reverse_0 : decode cX4_reverse 0 = .ok (.iconst 0, 1) := by decide +kernel
theorem dX4_reverse_1 : decode cX4_reverse 1 = .ok (.istore_n 1, 1) := by decide +kernel
theorem dX4_reverse_2 : decode cX4_reverse 2 = .ok (.iload_n 1, 1) := by decide +kernel
theorem dX4_reverse_3 : decode cX4_reverse 3 = .ok (.aload_n 0, 1) := by decide +kernel
theorem dX4_reverse_4 : decode cX4_reverse 4 = .ok (.getfield 27, 3) := by decide +kernel
theorem dX4_reverse_7 : decode cX4_reverse 7 = .ok (.iconst 2, 1) := by decide +kernel
theorem dX4_reverse_8 : decode cX4_reverse 8 = .ok (.idiv, 1) := by decide +kernel
theorem dX4_reverse_9 : decode cX4_reverse 9 = .ok (.if_icmp .ge 22, 3) := by decide +kernel
theorem dX4_reverse_12 : decode cX4_reverse 12 = .ok (.aload_n 0, 1) := by decide +kernel
theorem dX4_reverse_13 : decode cX4_reverse 13 = .ok (.iload_n 1, 1) := by decide +kernel
theorem dX4_reverse_14 : decode cX4_reverse 14 = .ok (.aload_n 0, 1) := by decide +kernel
theorem dX4_reverse_15 : decode cX4_reverse 15 = .ok (.getfield 27, 3) := by decide +kernel
theorem dX4_reverse_18 : decode cX4_reverse 18 = .ok (.iconst 1, 1) := by decide +kernel
theorem dX4_reverse_19 : decode cX4_reverse 19 = .ok (.isub, 1) := by decide +kernel
theorem dX4_reverse_20 : decode cX4_reverse 20 = .ok (.iload_n 1, 1) := by decide +kernel
theorem dX4_reverse_21 : decode cX4_reverse 21 = .ok (.isub, 1) := by decide +kernel
theorem dX4_reverse_22 : decode cX4_reverse 22 = .ok (.invokevirtual 47, 3) := by decide +kernel
theorem dX4_reverse_25 : decode cX4_reverse 25 = .ok (.iinc 1 1, 3) := by decide +kernel
theorem dX4_reverse_28 : decode cX4_reverse 28 = .ok (.goto (-26), 3) := by decide +kernel
theorem dX4_reverse_31 : decode cX4_reverse 31 = .ok (.iconst 0, 1) := by decide +kernel
theorem dX4_reverse_32 : decode cX4_reverse 32 = .ok (.istore_n 1, 1) := by decide +kernel
theorem dX4_reverse_33 : decode cX4_reverse 33 = .ok (.iload_n 1, 1) := by decide +kernel
theorem dX4_reverse_34 : decode cX4_reverse 34 = .ok (.aload_n 0, 1) := by decide +kernel
theorem dX4_reverse_35 : decode cX4_reverse 35 = .ok (.getfield 27, 3) := by decide +kernel
theorem dX4_reverse_38 : decode cX4_reverse 38 = .ok (.if_icmp .ge 35, 3) := by decide +kernel
theorem dX4_reverse_41 : decode cX4_reverse 41 = .ok (.aload_n 0, 1) := by decide +kernel
theorem dX4_reverse_42 : decode cX4_reverse 42 = .ok (.getfield 18, 3) := by decide +kernel
theorem dX4_reverse_45 : decode cX4_reverse 45 = .ok (.iload_n 1, 1) := by decide +kernel
theorem dX4_reverse_46 : decode cX4_reverse 46 = .ok (.aload_n 0, 1) := by decide +kernel
theorem dX4_reverse_47 : decode cX4_reverse 47 = .ok (.getfield 18, 3) := by decide +kernel
theorem dX4_reverse_50 : decode cX4_reverse 50 = .ok (.iload_n 1, 1) := by decide +kernel
theorem dX4_reverse_51 : decode cX4_reverse 51 = .ok (.iaload, 1) := by decide +kernel
theorem dX4_reverse_52 : decode cX4_reverse 52 = .ok (.ineg, 1) := by decide +kernel
theorem dX4_reverse_53 : decode cX4_reverse 53 = .ok (.iastore, 1) := by decide +kernel
theorem dX4_reverse_54 : decode cX4_reverse 54 = .ok (.aload_n 0, 1) := by decide +kernel
theorem dX4_reverse_55 : decode cX4_reverse 55 = .ok (.getfield 21, 3) := by decide +kernel
theorem dX4_reverse_58 : decode cX4_reverse 58 = .ok (.iload_n 1, 1) := by decide +kernel
theorem dX4_reverse_59 : decode cX4_reverse 59 = .ok (.aload_n 0, 1) := by decide +kernel
theorem dX4_reverse_60 : decode cX4_reverse 60 = .ok (.getfield 21, 3) := by decide +kernel
theorem dX4_reverse_63 : decode cX4_reverse 63 = .ok (.iload_n 1, 1) := by decide +kernel
theorem dX4_reverse_64 : decode cX4_reverse 64 = .ok (.iaload, 1) := by decide +kernel
theorem dX4_reverse_65 : decode cX4_reverse 65 = .ok (.ineg, 1) := by decide +kernel
theorem dX4_reverse_66 : decode cX4_reverse 66 = .ok (.iastore, 1) := by decide +kernel
theorem dX4_reverse_67 : decode cX4_reverse 67 = .ok (.iinc 1 1, 3) := by decide +kernel
theorem dX4_reverse_70 : decode cX4_reverse 70 = .ok (.goto (-37), 3) := by decide +kernel
theorem dX4_reverse_73 : decode cX4_reverse 73 = .ok (.aload_n 0, 1) := by decide +kernel
theorem dX4_reverse_74 : decode cX4_reverse 74 = .ok (.getfield 27, 3) := by decide +kernel
theorem dX4_reverse_77 : decode cX4_reverse 77 = .ok (.ireturn, 1) := by decide +kernel
theorem dX4_move_0 : decode cX4_move 0 = .ok (.aload_n 0, 1) := by decide +kernel
theorem dX4_move_1 : decode cX4_move 1 = .ok (.getfield 9, 3) := by decide +kernel
theorem dX4_move_4 : decode cX4_move 4 = .ok (.iload_n 2, 1) := by decide +kernel
theorem dX4_move_5 : decode cX4_move 5 = .ok (.aload_n 0, 1) := by decide +kernel
theorem dX4_move_6 : decode cX4_move 6 = .ok (.getfield 9, 3) := by decide +kernel
theorem dX4_move_9 : decode cX4_move 9 = .ok (.iload_n 1, 1) := by decide +kernel
theorem dX4_move_10 : decode cX4_move 10 = .ok (.iaload, 1) := by decide +kernel
theorem dX4_move_11 : decode cX4_move 11 = .ok (.iastore, 1) := by decide +kernel
theorem dX4_move_12 : decode cX4_move 12 = .ok (.aload_n 0, 1) := by decide +kernel
theorem dX4_move_13 : decode cX4_move 13 = .ok (.getfield 15, 3) := by decide +kernel
theorem dX4_move_16 : decode cX4_move 16 = .ok (.iload_n 2, 1) := by decide +kernel
theorem dX4_move_17 : decode cX4_move 17 = .ok (.aload_n 0, 1) := by decide +kernel
theorem dX4_move_18 : decode cX4_move 18 = .ok (.getfield 15, 3) := by decide +kernel
theorem dX4_move_21 : decode cX4_move 21 = .ok (.iload_n 1, 1) := by decide +kernel
theorem dX4_move_22 : decode cX4_move 22 = .ok (.iaload, 1) := by decide +kernel
theorem dX4_move_23 : decode cX4_move 23 = .ok (.iastore, 1) := by decide +kernel
theorem dX4_move_24 : decode cX4_move 24 = .ok (.aload_n 0, 1) := by decide +kernel
theorem dX4_move_25 : decode cX4_move 25 = .ok (.getfield 18, 3) := by decide +kernel
theorem dX4_move_28 : decode cX4_move 28 = .ok (.iload_n 2, 1) := by decide +kernel
theorem dX4_move_29 : decode cX4_move 29 = .ok (.aload_n 0, 1) := by decide +kernel
theorem dX4_move_30 : decode cX4_move 30 = .ok (.getfield 18, 3) := by decide +kernel
theorem dX4_move_33 : decode cX4_move 33 = .ok (.iload_n 1, 1) := by decide +kernel
theorem dX4_move_34 : decode cX4_move 34 = .ok (.iaload, 1) := by decide +kernel
theorem dX4_move_35 : decode cX4_move 35 = .ok (.iastore, 1) := by decide +kernel
theorem dX4_move_36 : decode cX4_move 36 = .ok (.aload_n 0, 1) := by decide +kernel
theorem dX4_move_37 : decode cX4_move 37 = .ok (.getfield 21, 3) := by decide +kernel
theorem dX4_move_40 : decode cX4_move 40 = .ok (.iload_n 2, 1) := by decide +kernel
theorem dX4_move_41 : decode cX4_move 41 = .ok (.aload_n 0, 1) := by decide +kernel
theorem dX4_move_42 : decode cX4_move 42 = .ok (.getfield 21, 3) := by decide +kernel
theorem dX4_move_45 : decode cX4_move 45 = .ok (.iload_n 1, 1) := by decide +kernel
theorem dX4_move_46 : decode cX4_move 46 = .ok (.iaload, 1) := by decide +kernel
theorem dX4_move_47 : decode cX4_move 47 = .ok (.iastore, 1) := by decide +kernel
theorem dX4_move_48 : decode cX4_move 48 = .ok (.aload_n 0, 1) := by decide +kernel
theorem dX4_move_49 : decode cX4_move 49 = .ok (.getfield 24, 3) := by decide +kernel
theorem dX4_move_52 : decode cX4_move 52 = .ok (.iload_n 2, 1) := by decide +kernel
theorem dX4_move_53 : decode cX4_move 53 = .ok (.aload_n 0, 1) := by decide +kernel
theorem dX4_move_54 : decode cX4_move 54 = .ok (.getfield 24, 3) := by decide +kernel
theorem dX4_move_57 : decode cX4_move 57 = .ok (.iload_n 1, 1) := by decide +kernel
theorem dX4_move_58 : decode cX4_move 58 = .ok (.iaload, 1) := by decide +kernel
theorem dX4_move_59 : decode cX4_move 59 = .ok (.iastore, 1) := by decide +kernel
theorem dX4_move_60 : decode cX4_move 60 = .ok (.return_, 1) := by decide +kernel
theorem dX4_swap_0 : decode cX4_swap 0 = .ok (.aload_n 0, 1) := by decide +kernel
theorem dX4_swap_1 : decode cX4_swap 1 = .ok (.getfield 9, 3) := by decide +kernel
theorem dX4_swap_4 : decode cX4_swap 4 = .ok (.iload_n 1, 1) := by decide +kernel
theorem dX4_swap_5 : decode cX4_swap 5 = .ok (.iaload, 1) := by decide +kernel
theorem dX4_swap_6 : decode cX4_swap 6 = .ok (.istore_n 3, 1) := by decide +kernel
theorem dX4_swap_7 : decode cX4_swap 7 = .ok (.aload_n 0, 1) := by decide +kernel
theorem dX4_swap_8 : decode cX4_swap 8 = .ok (.getfield 15, 3) := by decide +kernel
theorem dX4_swap_11 : decode cX4_swap 11 = .ok (.iload_n 1, 1) := by decide +kernel
theorem dX4_swap_12 : decode cX4_swap 12 = .ok (.iaload, 1) := by decide +kernel
theorem dX4_swap_13 : decode cX4_swap 13 = .ok (.istore 4, 2) := by decide +kernel
theorem dX4_swap_15 : decode cX4_swap 15 = .ok (.aload_n 0, 1) := by decide +kernel
theorem dX4_swap_16 : decode cX4_swap 16 = .ok (.getfield 18, 3) := by decide +kernel
theorem dX4_swap_19 : decode cX4_swap 19 = .ok (.iload_n 1, 1) := by decide +kernel
theorem dX4_swap_20 : decode cX4_swap 20 = .ok (.iaload, 1) := by decide +kernel
theorem dX4_swap_21 : decode cX4_swap 21 = .ok (.istore 5, 2) := by decide +kernel
theorem dX4_swap_23 : decode cX4_swap 23 = .ok (.aload_n 0, 1) := by decide +kernel
theorem dX4_swap_24 : decode cX4_swap 24 = .ok (.getfield 21, 3) := by decide +kernel
theorem dX4_swap_27 : decode cX4_swap 27 = .ok (.iload_n 1, 1) := by decide +kernel
theorem dX4_swap_28 : decode cX4_swap 28 = .ok (.iaload, 1) := by decide +kernel
theorem dX4_swap_29 : decode cX4_swap 29 = .ok (.istore 6, 2) := by decide +kernel
theorem dX4_swap_31 : decode cX4_swap 31 = .ok (.aload_n 0, 1) := by decide +kernel
theorem dX4_swap_32 : decode cX4_swap 32 = .ok (.getfield 24, 3) := by decide +kernel
theorem dX4_swap_35 : decode cX4_swap 35 = .ok (.iload_n 1, 1) := by decide +kernel
theorem dX4_swap_36 : decode cX4_swap 36 = .ok (.iaload, 1) := by decide +kernel
theorem dX4_swap_37 : decode cX4_swap 37 = .ok (.istore 7, 2) := by decide +kernel
theorem dX4_swap_39 : decode cX4_swap 39 = .ok (.aload_n 0, 1) := by decide +kernel
theorem dX4_swap_40 : decode cX4_swap 40 = .ok (.iload_n 2, 1) := by decide +kernel
theorem dX4_swap_41 : decode cX4_swap 41 = .ok (.iload_n 1, 1) := by decide +kernel
theorem dX4_swap_42 : decode cX4_swap 42 = .ok (.invokevirtual 43, 3) := by decide +kernel
theorem dX4_swap_45 : decode cX4_swap 45 = .ok (.aload_n 0, 1) := by decide +kernel
theorem dX4_swap_46 : decode cX4_swap 46 = .ok (.getfield 9, 3) := by decide +kernel
theorem dX4_swap_49 : decode cX4_swap 49 = .ok (.iload_n 2, 1) := by decide +kernel
theorem dX4_swap_50 : decode cX4_swap 50 = .ok (.iload_n 3, 1) := by decide +kernel
theorem dX4_swap_51 : decode cX4_swap 51 = .ok (.iastore, 1) := by decide +kernel
theorem dX4_swap_52 : decode cX4_swap 52 = .ok (.aload_n 0, 1) := by decide +kernel
theorem dX4_swap_53 : decode cX4_swap 53 = .ok (.getfield 15, 3) := by decide +kernel
theorem dX4_swap_56 : decode cX4_swap 56 = .ok (.iload_n 2, 1) := by decide +kernel
theorem dX4_swap_57 : decode cX4_swap 57 = .ok (.iload 4, 2) := by decide +kernel
theorem dX4_swap_59 : decode cX4_swap 59 = .ok (.iastore, 1) := by decide +kernel
theorem dX4_swap_60 : decode cX4_swap 60 = .ok (.aload_n 0, 1) := by decide +kernel
theorem dX4_swap_61 : decode cX4_swap 61 = .ok (.getfield 18, 3) := by decide +kernel
theorem dX4_swap_64 : decode cX4_swap 64 = .ok (.iload_n 2, 1) := by decide +kernel
theorem dX4_swap_65 : decode cX4_swap 65 = .ok (.iload 5, 2) := by decide +kernel
theorem dX4_swap_67 : decode cX4_swap 67 = .ok (.iastore, 1) := by decide +kernel
theorem dX4_swap_68 : decode cX4_swap 68 = .ok (.aload_n 0, 1) := by decide +kernel
theorem dX4_swap_69 : decode cX4_swap 69 = .ok (.getfield 21, 3) := by decide +kernel
theorem dX4_swap_72 : decode cX4_swap 72 = .ok (.iload_n 2, 1) := by decide +kernel
theorem dX4_swap_73 : decode cX4_swap 73 = .ok (.iload 6, 2) := by decide +kernel
theorem dX4_swap_75 : decode cX4_swap 75 = .ok (.iastore, 1) := by decide +kernel
theorem dX4_swap_76 : decode cX4_swap 76 = .ok (.aload_n 0, 1) := by decide +kernel
theorem dX4_swap_77 : decode cX4_swap 77 = .ok (.getfield 24, 3) := by decide +kernel
theorem dX4_swap_80 : decode cX4_swap 80 = .ok (.iload_n 2, 1) := by decide +kernel
theorem dX4_swap_81 : decode cX4_swap 81 = .ok (.iload 7, 2) := by decide +kernel
theorem dX4_swap_83 : decode cX4_swap 83 = .ok (.iastore, 1) := by decide +kernel
theorem dX4_swap_84 : decode cX4_swap 84 = .ok (.return_, 1) := by decide +kernel
theorem dX4_drawTimes_0 : decode cX4_drawTimes 0 = .ok (.iload_n 1, 1) := by decide +kernel
theorem dX4_drawTimes_1 : decode cX4_drawTimes 1 = .ok (.istore_n 2, 1) := by decide +kernel
theorem dX4_drawTimes_2 : decode cX4_drawTimes 2 = .ok (.iconst 0, 1) := by decide +kernel
theorem dX4_drawTimes_3 : decode cX4_drawTimes 3 = .ok (.istore_n 3, 1) := by decide +kernel
theorem dX4_drawTimes_4 : decode cX4_drawTimes 4 = .ok (.iload_n 3, 1) := by decide +kernel
theorem dX4_drawTimes_5 : decode cX4_drawTimes 5 = .ok (.aload_n 0, 1) := by decide +kernel
theorem dX4_drawTimes_6 : decode cX4_drawTimes 6 = .ok (.getfield 27, 3) := by decide +kernel
theorem dX4_drawTimes_9 : decode cX4_drawTimes 9 = .ok (.if_icmp .ge 36, 3) := by decide +kernel
theorem dX4_drawTimes_12 : decode cX4_drawTimes 12 = .ok (.iload_n 2, 1) := by decide +kernel
theorem dX4_drawTimes_13 : decode cX4_drawTimes 13 = .ok (.ldc 50, 2) := by decide +kernel
theorem dX4_drawTimes_15 : decode cX4_drawTimes 15 = .ok (.imul, 1) := by decide +kernel
theorem dX4_drawTimes_16 : decode cX4_drawTimes 16 = .ok (.ldc 51, 2) := by decide +kernel
theorem dX4_drawTimes_18 : decode cX4_drawTimes 18 = .ok (.iadd, 1) := by decide +kernel
theorem dX4_drawTimes_19 : decode cX4_drawTimes 19 = .ok (.istore_n 2, 1) := by decide +kernel
theorem dX4_drawTimes_20 : decode cX4_drawTimes 20 = .ok (.aload_n 0, 1) := by decide +kernel
theorem dX4_drawTimes_21 : decode cX4_drawTimes 21 = .ok (.getfield 24, 3) := by decide +kernel
theorem dX4_drawTimes_24 : decode cX4_drawTimes 24 = .ok (.iload_n 3, 1) := by decide +kernel
theorem dX4_drawTimes_25 : decode cX4_drawTimes 25 = .ok (.iload_n 2, 1) := by decide +kernel
theorem dX4_drawTimes_26 : decode cX4_drawTimes 26 = .ok (.ldc 52, 2) := by decide +kernel
theorem dX4_drawTimes_28 : decode cX4_drawTimes 28 = .ok (.iand, 1) := by decide +kernel
theorem dX4_drawTimes_29 : decode cX4_drawTimes 29 = .ok (.sipush 256, 3) := by decide +kernel
theorem dX4_drawTimes_32 : decode cX4_drawTimes 32 = .ok (.idiv, 1) := by decide +kernel
theorem dX4_drawTimes_33 : decode cX4_drawTimes 33 = .ok (.bipush 9, 2) := by decide +kernel
theorem dX4_drawTimes_35 : decode cX4_drawTimes 35 = .ok (.irem, 1) := by decide +kernel
theorem dX4_drawTimes_36 : decode cX4_drawTimes 36 = .ok (.iconst 1, 1) := by decide +kernel
theorem dX4_drawTimes_37 : decode cX4_drawTimes 37 = .ok (.iadd, 1) := by decide +kernel
theorem dX4_drawTimes_38 : decode cX4_drawTimes 38 = .ok (.iastore, 1) := by decide +kernel
theorem dX4_drawTimes_39 : decode cX4_drawTimes 39 = .ok (.iinc 3 1, 3) := by decide +kernel
theorem dX4_drawTimes_42 : decode cX4_drawTimes 42 = .ok (.goto (-38), 3) := by decide +kernel
theorem dX4_drawTimes_45 : decode cX4_drawTimes 45 = .ok (.iload_n 2, 1) := by decide +kernel
theorem dX4_drawTimes_46 : decode cX4_drawTimes 46 = .ok (.ireturn, 1) := by decide +kernel
theorem dX4_stretch_0 : decode cX4_stretch 0 = .ok (.aload_n 0, 1) := by decide +kernel
theorem dX4_stretch_1 : decode cX4_stretch 1 = .ok (.getfield 9, 3) := by decide +kernel
theorem dX4_stretch_4 : decode cX4_stretch 4 = .ok (.iload_n 1, 1) := by decide +kernel
theorem dX4_stretch_5 : decode cX4_stretch 5 = .ok (.iaload, 1) := by decide +kernel
theorem dX4_stretch_6 : decode cX4_stretch 6 = .ok (.tableswitch 54 1 5 #[34, 54, 34, 54, 44], 34) := by decide +kernel
theorem dX4_stretch_40 : decode cX4_stretch 40 = .ok (.bipush 10, 2) := by decide +kernel
theorem dX4_stretch_42 : decode cX4_stretch 42 = .ok (.aload_n 0, 1) := by decide +kernel
theorem dX4_stretch_43 : decode cX4_stretch 43 = .ok (.getfield 15, 3) := by decide +kernel
theorem dX4_stretch_46 : decode cX4_stretch 46 = .ok (.iload_n 1, 1) := by decide +kernel
theorem dX4_stretch_47 : decode cX4_stretch 47 = .ok (.iaload, 1) := by decide +kernel
theorem dX4_stretch_48 : decode cX4_stretch 48 = .ok (.iadd, 1) := by decide +kernel
theorem dX4_stretch_49 : decode cX4_stretch 49 = .ok (.ireturn, 1) := by decide +kernel
theorem dX4_stretch_50 : decode cX4_stretch 50 = .ok (.bipush 10, 2) := by decide +kernel
theorem dX4_stretch_52 : decode cX4_stretch 52 = .ok (.aload_n 0, 1) := by decide +kernel
theorem dX4_stretch_53 : decode cX4_stretch 53 = .ok (.getfield 15, 3) := by decide +kernel
theorem dX4_stretch_56 : decode cX4_stretch 56 = .ok (.iload_n 1, 1) := by decide +kernel
theorem dX4_stretch_57 : decode cX4_stretch 57 = .ok (.iaload, 1) := by decide +kernel
theorem dX4_stretch_58 : decode cX4_stretch 58 = .ok (.isub, 1) := by decide +kernel
theorem dX4_stretch_59 : decode cX4_stretch 59 = .ok (.ireturn, 1) := by decide +kernel
theorem dX4_stretch_60 : decode cX4_stretch 60 = .ok (.bipush 10, 2) := by decide +kernel
theorem dX4_stretch_62 : decode cX4_stretch 62 = .ok (.ireturn, 1) := by decide +kernel
theorem dX4_onceEast_0 : decode cX4_onceEast 0 = .ok (.aload_n 0, 1) := by decide +kernel
theorem dX4_onceEast_1 : decode cX4_onceEast 1 = .ok (.iload_n 1, 1) := by decide +kernel
theorem dX4_onceEast_2 : decode cX4_onceEast 2 = .ok (.invokevirtual 53, 3) := by decide +kernel
theorem dX4_onceEast_5 : decode cX4_onceEast 5 = .ok (.aload_n 0, 1) := by decide +kernel
theorem dX4_onceEast_6 : decode cX4_onceEast 6 = .ok (.getfield 18, 3) := by decide +kernel
theorem dX4_onceEast_9 : decode cX4_onceEast 9 = .ok (.iload_n 1, 1) := by decide +kernel
theorem dX4_onceEast_10 : decode cX4_onceEast 10 = .ok (.iaload, 1) := by decide +kernel
theorem dX4_onceEast_11 : decode cX4_onceEast 11 = .ok (.imul, 1) := by decide +kernel
theorem dX4_onceEast_12 : decode cX4_onceEast 12 = .ok (.ireturn, 1) := by decide +kernel
theorem dX4_onceNorth_0 : decode cX4_onceNorth 0 = .ok (.aload_n 0, 1) := by decide +kernel
theorem dX4_onceNorth_1 : decode cX4_onceNorth 1 = .ok (.iload_n 1, 1) := by decide +kernel
theorem dX4_onceNorth_2 : decode cX4_onceNorth 2 = .ok (.invokevirtual 53, 3) := by decide +kernel
theorem dX4_onceNorth_5 : decode cX4_onceNorth 5 = .ok (.aload_n 0, 1) := by decide +kernel
theorem dX4_onceNorth_6 : decode cX4_onceNorth 6 = .ok (.getfield 21, 3) := by decide +kernel
theorem dX4_onceNorth_9 : decode cX4_onceNorth 9 = .ok (.iload_n 1, 1) := by decide +kernel
theorem dX4_onceNorth_10 : decode cX4_onceNorth 10 = .ok (.iaload, 1) := by decide +kernel
theorem dX4_onceNorth_11 : decode cX4_onceNorth 11 = .ok (.imul, 1) := by decide +kernel
theorem dX4_onceNorth_12 : decode cX4_onceNorth 12 = .ok (.ireturn, 1) := by decide +kernel
theorem dX4_stepEast_0 : decode cX4_stepEast 0 = .ok (.aload_n 0, 1) := by decide +kernel
theorem dX4_stepEast_1 : decode cX4_stepEast 1 = .ok (.getfield 24, 3) := by decide +kernel
theorem dX4_stepEast_4 : decode cX4_stepEast 4 = .ok (.iload_n 1, 1) := by decide +kernel
theorem dX4_stepEast_5 : decode cX4_stepEast 5 = .ok (.iaload, 1) := by decide +kernel
theorem dX4_stepEast_6 : decode cX4_stepEast 6 = .ok (.aload_n 0, 1) := by decide +kernel
theorem dX4_stepEast_7 : decode cX4_stepEast 7 = .ok (.iload_n 1, 1) := by decide +kernel
theorem dX4_stepEast_8 : decode cX4_stepEast 8 = .ok (.invokevirtual 57, 3) := by decide +kernel
theorem dX4_stepEast_11 : decode cX4_stepEast 11 = .ok (.imul, 1) := by decide +kernel
theorem dX4_stepEast_12 : decode cX4_stepEast 12 = .ok (.ireturn, 1) := by decide +kernel
theorem dX4_stepNorth_0 : decode cX4_stepNorth 0 = .ok (.aload_n 0, 1) := by decide +kernel
theorem dX4_stepNorth_1 : decode cX4_stepNorth 1 = .ok (.getfield 24, 3) := by decide +kernel
theorem dX4_stepNorth_4 : decode cX4_stepNorth 4 = .ok (.iload_n 1, 1) := by decide +kernel
theorem dX4_stepNorth_5 : decode cX4_stepNorth 5 = .ok (.iaload, 1) := by decide +kernel
theorem dX4_stepNorth_6 : decode cX4_stepNorth 6 = .ok (.aload_n 0, 1) := by decide +kernel
theorem dX4_stepNorth_7 : decode cX4_stepNorth 7 = .ok (.iload_n 1, 1) := by decide +kernel
theorem dX4_stepNorth_8 : decode cX4_stepNorth 8 = .ok (.invokevirtual 60, 3) := by decide +kernel
theorem dX4_stepNorth_11 : decode cX4_stepNorth 11 = .ok (.imul, 1) := by decide +kernel
theorem dX4_stepNorth_12 : decode cX4_stepNorth 12 = .ok (.ireturn, 1) := by decide +kernel
theorem dX4_weightOf_0 : decode cX4_weightOf 0 = .ok (.iload_n 3, 1) := by decide +kernel
theorem dX4_weightOf_1 : decode cX4_weightOf 1 = .ok (.iload_n 1, 1) := by decide +kernel
theorem dX4_weightOf_2 : decode cX4_weightOf 2 = .ok (.invokestatic 63, 3) := by decide +kernel
theorem dX4_weightOf_5 : decode cX4_weightOf 5 = .ok (.iload_n 2, 1) := by decide +kernel
theorem dX4_weightOf_6 : decode cX4_weightOf 6 = .ok (.invokestatic 63, 3) := by decide +kernel
theorem dX4_weightOf_9 : decode cX4_weightOf 9 = .ok (.iadd, 1) := by decide +kernel
theorem dX4_weightOf_10 : decode cX4_weightOf 10 = .ok (.imul, 1) := by decide +kernel
theorem dX4_weightOf_11 : decode cX4_weightOf 11 = .ok (.istore 4, 2) := by decide +kernel
theorem dX4_weightOf_13 : decode cX4_weightOf 13 = .ok (.iload_n 0, 1) := by decide +kernel
theorem dX4_weightOf_14 : decode cX4_weightOf 14 = .ok (.tableswitch 46 2 5 #[30, 35, 44, 30], 30) := by decide +kernel
theorem dX4_weightOf_44 : decode cX4_weightOf 44 = .ok (.iconst 2, 1) := by decide +kernel
theorem dX4_weightOf_45 : decode cX4_weightOf 45 = .ok (.iload 4, 2) := by decide +kernel
theorem dX4_weightOf_47 : decode cX4_weightOf 47 = .ok (.imul, 1) := by decide +kernel
theorem dX4_weightOf_48 : decode cX4_weightOf 48 = .ok (.ireturn, 1) := by decide +kernel
theorem dX4_weightOf_49 : decode cX4_weightOf 49 = .ok (.iconst 1, 1) := by decide +kernel
theorem dX4_weightOf_50 : decode cX4_weightOf 50 = .ok (.iload 4, 2) := by decide +kernel
theorem dX4_weightOf_52 : decode cX4_weightOf 52 = .ok (.iconst 2, 1) := by decide +kernel
theorem dX4_weightOf_53 : decode cX4_weightOf 53 = .ok (.idiv, 1) := by decide +kernel
theorem dX4_weightOf_54 : decode cX4_weightOf 54 = .ok (.invokestatic 68, 3) := by decide +kernel
theorem dX4_weightOf_57 : decode cX4_weightOf 57 = .ok (.ireturn, 1) := by decide +kernel
theorem dX4_weightOf_58 : decode cX4_weightOf 58 = .ok (.iconst 0, 1) := by decide +kernel
theorem dX4_weightOf_59 : decode cX4_weightOf 59 = .ok (.ireturn, 1) := by decide +kernel
theorem dX4_weightOf_60 : decode cX4_weightOf 60 = .ok (.iload 4, 2) := by decide +kernel
theorem dX4_weightOf_62 : decode cX4_weightOf 62 = .ok (.ireturn, 1) := by decide +kernel
theorem dX4_weight_0 : decode cX4_weight 0 = .ok (.aload_n 0, 1) := by decide +kernel
theorem dX4_weight_1 : decode cX4_weight 1 = .ok (.getfield 9, 3) := by decide +kernel
theorem dX4_weight_4 : decode cX4_weight 4 = .ok (.iload_n 1, 1) := by decide +kernel
theorem dX4_weight_5 : decode cX4_weight 5 = .ok (.iaload, 1) := by decide +kernel
theorem dX4_weight_6 : decode cX4_weight 6 = .ok (.aload_n 0, 1) := by decide +kernel
theorem dX4_weight_7 : decode cX4_weight 7 = .ok (.getfield 18, 3) := by decide +kernel
theorem dX4_weight_10 : decode cX4_weight 10 = .ok (.iload_n 1, 1) := by decide +kernel
theorem dX4_weight_11 : decode cX4_weight 11 = .ok (.iaload, 1) := by decide +kernel
theorem dX4_weight_12 : decode cX4_weight 12 = .ok (.aload_n 0, 1) := by decide +kernel
theorem dX4_weight_13 : decode cX4_weight 13 = .ok (.getfield 21, 3) := by decide +kernel
theorem dX4_weight_16 : decode cX4_weight 16 = .ok (.iload_n 1, 1) := by decide +kernel
theorem dX4_weight_17 : decode cX4_weight 17 = .ok (.iaload, 1) := by decide +kernel
theorem dX4_weight_18 : decode cX4_weight 18 = .ok (.aload_n 0, 1) := by decide +kernel
theorem dX4_weight_19 : decode cX4_weight 19 = .ok (.getfield 24, 3) := by decide +kernel
theorem dX4_weight_22 : decode cX4_weight 22 = .ok (.iload_n 1, 1) := by decide +kernel
theorem dX4_weight_23 : decode cX4_weight 23 = .ok (.iaload, 1) := by decide +kernel
theorem dX4_weight_24 : decode cX4_weight 24 = .ok (.invokestatic 72, 3) := by decide +kernel
theorem dX4_weight_27 : decode cX4_weight 27 = .ok (.ireturn, 1) := by decide +kernel
theorem dX4_weightOfAll_0 : decode cX4_weightOfAll 0 = .ok (.iconst 0, 1) := by decide +kernel
theorem dX4_weightOfAll_1 : decode cX4_weightOfAll 1 = .ok (.istore_n 1, 1) := by decide +kernel
theorem dX4_weightOfAll_2 : decode cX4_weightOfAll 2 = .ok (.iconst 0, 1) := by decide +kernel
theorem dX4_weightOfAll_3 : decode cX4_weightOfAll 3 = .ok (.istore_n 2, 1) := by decide +kernel
theorem dX4_weightOfAll_4 : decode cX4_weightOfAll 4 = .ok (.iload_n 2, 1) := by decide +kernel
theorem dX4_weightOfAll_5 : decode cX4_weightOfAll 5 = .ok (.aload_n 0, 1) := by decide +kernel
theorem dX4_weightOfAll_6 : decode cX4_weightOfAll 6 = .ok (.getfield 27, 3) := by decide +kernel
theorem dX4_weightOfAll_9 : decode cX4_weightOfAll 9 = .ok (.if_icmp .ge 17, 3) := by decide +kernel
theorem dX4_weightOfAll_12 : decode cX4_weightOfAll 12 = .ok (.iload_n 1, 1) := by decide +kernel
theorem dX4_weightOfAll_13 : decode cX4_weightOfAll 13 = .ok (.aload_n 0, 1) := by decide +kernel
theorem dX4_weightOfAll_14 : decode cX4_weightOfAll 14 = .ok (.iload_n 2, 1) := by decide +kernel
theorem dX4_weightOfAll_15 : decode cX4_weightOfAll 15 = .ok (.invokevirtual 76, 3) := by decide +kernel
theorem dX4_weightOfAll_18 : decode cX4_weightOfAll 18 = .ok (.iadd, 1) := by decide +kernel
theorem dX4_weightOfAll_19 : decode cX4_weightOfAll 19 = .ok (.istore_n 1, 1) := by decide +kernel
theorem dX4_weightOfAll_20 : decode cX4_weightOfAll 20 = .ok (.iinc 2 1, 3) := by decide +kernel
theorem dX4_weightOfAll_23 : decode cX4_weightOfAll 23 = .ok (.goto (-19), 3) := by decide +kernel
theorem dX4_weightOfAll_26 : decode cX4_weightOfAll 26 = .ok (.iload_n 1, 1) := by decide +kernel
theorem dX4_weightOfAll_27 : decode cX4_weightOfAll 27 = .ok (.ireturn, 1) := by decide +kernel
theorem dX4_aheadByWeight_0 : decode cX4_aheadByWeight 0 = .ok (.iconst 0, 1) := by decide +kernel
theorem dX4_aheadByWeight_1 : decode cX4_aheadByWeight 1 = .ok (.istore_n 2, 1) := by decide +kernel
theorem dX4_aheadByWeight_2 : decode cX4_aheadByWeight 2 = .ok (.iconst 0, 1) := by decide +kernel
theorem dX4_aheadByWeight_3 : decode cX4_aheadByWeight 3 = .ok (.istore_n 3, 1) := by decide +kernel
theorem dX4_aheadByWeight_4 : decode cX4_aheadByWeight 4 = .ok (.iload_n 3, 1) := by decide +kernel
theorem dX4_aheadByWeight_5 : decode cX4_aheadByWeight 5 = .ok (.aload_n 0, 1) := by decide +kernel
theorem dX4_aheadByWeight_6 : decode cX4_aheadByWeight 6 = .ok (.getfield 27, 3) := by decide +kernel
theorem dX4_aheadByWeight_9 : decode cX4_aheadByWeight 9 = .ok (.if_icmp .ge 40, 3) := by decide +kernel
theorem dX4_aheadByWeight_12 : decode cX4_aheadByWeight 12 = .ok (.aload_n 0, 1) := by decide +kernel
theorem dX4_aheadByWeight_13 : decode cX4_aheadByWeight 13 = .ok (.iload_n 3, 1) := by decide +kernel
theorem dX4_aheadByWeight_14 : decode cX4_aheadByWeight 14 = .ok (.invokevirtual 76, 3) := by decide +kernel
theorem dX4_aheadByWeight_17 : decode cX4_aheadByWeight 17 = .ok (.aload_n 0, 1) := by decide +kernel
theorem dX4_aheadByWeight_18 : decode cX4_aheadByWeight 18 = .ok (.iload_n 1, 1) := by decide +kernel
theorem dX4_aheadByWeight_19 : decode cX4_aheadByWeight 19 = .ok (.invokevirtual 76, 3) := by decide +kernel
theorem dX4_aheadByWeight_22 : decode cX4_aheadByWeight 22 = .ok (.isub, 1) := by decide +kernel
theorem dX4_aheadByWeight_23 : decode cX4_aheadByWeight 23 = .ok (.istore 4, 2) := by decide +kernel
theorem dX4_aheadByWeight_25 : decode cX4_aheadByWeight 25 = .ok (.iload 4, 2) := by decide +kernel
theorem dX4_aheadByWeight_27 : decode cX4_aheadByWeight 27 = .ok (.ifCond .gt 13, 3) := by decide +kernel
theorem dX4_aheadByWeight_30 : decode cX4_aheadByWeight 30 = .ok (.iload 4, 2) := by decide +kernel
theorem dX4_aheadByWeight_32 : decode cX4_aheadByWeight 32 = .ok (.ifCond .ne 11, 3) := by decide +kernel
theorem dX4_aheadByWeight_35 : decode cX4_aheadByWeight 35 = .ok (.iload_n 3, 1) := by decide +kernel
theorem dX4_aheadByWeight_36 : decode cX4_aheadByWeight 36 = .ok (.iload_n 1, 1) := by decide +kernel
theorem dX4_aheadByWeight_37 : decode cX4_aheadByWeight 37 = .ok (.if_icmp .ge 6, 3) := by decide +kernel
theorem dX4_aheadByWeight_40 : decode cX4_aheadByWeight 40 = .ok (.iinc 2 1, 3) := by decide +kernel
theorem dX4_aheadByWeight_43 : decode cX4_aheadByWeight 43 = .ok (.iinc 3 1, 3) := by decide +kernel
theorem dX4_aheadByWeight_46 : decode cX4_aheadByWeight 46 = .ok (.goto (-42), 3) := by decide +kernel
theorem dX4_aheadByWeight_49 : decode cX4_aheadByWeight 49 = .ok (.iload_n 2, 1) := by decide +kernel
theorem dX4_aheadByWeight_50 : decode cX4_aheadByWeight 50 = .ok (.ireturn, 1) := by decide +kernel
theorem dX4_missEast_0 : decode cX4_missEast 0 = .ok (.iconst 0, 1) := by decide +kernel
theorem dX4_missEast_1 : decode cX4_missEast 1 = .ok (.istore_n 2, 1) := by decide +kernel
theorem dX4_missEast_2 : decode cX4_missEast 2 = .ok (.iconst 0, 1) := by decide +kernel
theorem dX4_missEast_3 : decode cX4_missEast 3 = .ok (.istore_n 3, 1) := by decide +kernel
theorem dX4_missEast_4 : decode cX4_missEast 4 = .ok (.iload_n 3, 1) := by decide +kernel
theorem dX4_missEast_5 : decode cX4_missEast 5 = .ok (.aload_n 0, 1) := by decide +kernel
theorem dX4_missEast_6 : decode cX4_missEast 6 = .ok (.getfield 27, 3) := by decide +kernel
theorem dX4_missEast_9 : decode cX4_missEast 9 = .ok (.if_icmp .ge 23, 3) := by decide +kernel
theorem dX4_missEast_12 : decode cX4_missEast 12 = .ok (.iload_n 2, 1) := by decide +kernel
theorem dX4_missEast_13 : decode cX4_missEast 13 = .ok (.iload_n 1, 1) := by decide +kernel
theorem dX4_missEast_14 : decode cX4_missEast 14 = .ok (.iload_n 3, 1) := by decide +kernel
theorem dX4_missEast_15 : decode cX4_missEast 15 = .ok (.ishr, 1) := by decide +kernel
theorem dX4_missEast_16 : decode cX4_missEast 16 = .ok (.iconst 1, 1) := by decide +kernel
theorem dX4_missEast_17 : decode cX4_missEast 17 = .ok (.iand, 1) := by decide +kernel
theorem dX4_missEast_18 : decode cX4_missEast 18 = .ok (.aload_n 0, 1) := by decide +kernel
theorem dX4_missEast_19 : decode cX4_missEast 19 = .ok (.iload_n 3, 1) := by decide +kernel
theorem dX4_missEast_20 : decode cX4_missEast 20 = .ok (.invokevirtual 79, 3) := by decide +kernel
theorem dX4_missEast_23 : decode cX4_missEast 23 = .ok (.imul, 1) := by decide +kernel
theorem dX4_missEast_24 : decode cX4_missEast 24 = .ok (.iadd, 1) := by decide +kernel
theorem dX4_missEast_25 : decode cX4_missEast 25 = .ok (.istore_n 2, 1) := by decide +kernel
theorem dX4_missEast_26 : decode cX4_missEast 26 = .ok (.iinc 3 1, 3) := by decide +kernel
theorem dX4_missEast_29 : decode cX4_missEast 29 = .ok (.goto (-25), 3) := by decide +kernel
theorem dX4_missEast_32 : decode cX4_missEast 32 = .ok (.iload_n 2, 1) := by decide +kernel
theorem dX4_missEast_33 : decode cX4_missEast 33 = .ok (.ireturn, 1) := by decide +kernel
theorem dX4_missNorth_0 : decode cX4_missNorth 0 = .ok (.iconst 0, 1) := by decide +kernel
theorem dX4_missNorth_1 : decode cX4_missNorth 1 = .ok (.istore_n 2, 1) := by decide +kernel
theorem dX4_missNorth_2 : decode cX4_missNorth 2 = .ok (.iconst 0, 1) := by decide +kernel
theorem dX4_missNorth_3 : decode cX4_missNorth 3 = .ok (.istore_n 3, 1) := by decide +kernel
theorem dX4_missNorth_4 : decode cX4_missNorth 4 = .ok (.iload_n 3, 1) := by decide +kernel
theorem dX4_missNorth_5 : decode cX4_missNorth 5 = .ok (.aload_n 0, 1) := by decide +kernel
theorem dX4_missNorth_6 : decode cX4_missNorth 6 = .ok (.getfield 27, 3) := by decide +kernel
theorem dX4_missNorth_9 : decode cX4_missNorth 9 = .ok (.if_icmp .ge 23, 3) := by decide +kernel
theorem dX4_missNorth_12 : decode cX4_missNorth 12 = .ok (.iload_n 2, 1) := by decide +kernel
theorem dX4_missNorth_13 : decode cX4_missNorth 13 = .ok (.iload_n 1, 1) := by decide +kernel
theorem dX4_missNorth_14 : decode cX4_missNorth 14 = .ok (.iload_n 3, 1) := by decide +kernel
theorem dX4_missNorth_15 : decode cX4_missNorth 15 = .ok (.ishr, 1) := by decide +kernel
theorem dX4_missNorth_16 : decode cX4_missNorth 16 = .ok (.iconst 1, 1) := by decide +kernel
theorem dX4_missNorth_17 : decode cX4_missNorth 17 = .ok (.iand, 1) := by decide +kernel
theorem dX4_missNorth_18 : decode cX4_missNorth 18 = .ok (.aload_n 0, 1) := by decide +kernel
theorem dX4_missNorth_19 : decode cX4_missNorth 19 = .ok (.iload_n 3, 1) := by decide +kernel
theorem dX4_missNorth_20 : decode cX4_missNorth 20 = .ok (.invokevirtual 82, 3) := by decide +kernel
theorem dX4_missNorth_23 : decode cX4_missNorth 23 = .ok (.imul, 1) := by decide +kernel
theorem dX4_missNorth_24 : decode cX4_missNorth 24 = .ok (.iadd, 1) := by decide +kernel
theorem dX4_missNorth_25 : decode cX4_missNorth 25 = .ok (.istore_n 2, 1) := by decide +kernel
theorem dX4_missNorth_26 : decode cX4_missNorth 26 = .ok (.iinc 3 1, 3) := by decide +kernel
theorem dX4_missNorth_29 : decode cX4_missNorth 29 = .ok (.goto (-25), 3) := by decide +kernel
theorem dX4_missNorth_32 : decode cX4_missNorth 32 = .ok (.iload_n 2, 1) := by decide +kernel
theorem dX4_missNorth_33 : decode cX4_missNorth 33 = .ok (.ireturn, 1) := by decide +kernel
theorem dX4_missing_0 : decode cX4_missing 0 = .ok (.aload_n 0, 1) := by decide +kernel
theorem dX4_missing_1 : decode cX4_missing 1 = .ok (.iload_n 1, 1) := by decide +kernel
theorem dX4_missing_2 : decode cX4_missing 2 = .ok (.invokevirtual 85, 3) := by decide +kernel
theorem dX4_missing_5 : decode cX4_missing 5 = .ok (.invokestatic 63, 3) := by decide +kernel
theorem dX4_missing_8 : decode cX4_missing 8 = .ok (.aload_n 0, 1) := by decide +kernel
theorem dX4_missing_9 : decode cX4_missing 9 = .ok (.iload_n 1, 1) := by decide +kernel
theorem dX4_missing_10 : decode cX4_missing 10 = .ok (.invokevirtual 88, 3) := by decide +kernel
theorem dX4_missing_13 : decode cX4_missing 13 = .ok (.invokestatic 63, 3) := by decide +kernel
theorem dX4_missing_16 : decode cX4_missing 16 = .ok (.iadd, 1) := by decide +kernel
theorem dX4_missing_17 : decode cX4_missing 17 = .ok (.ireturn, 1) := by decide +kernel
