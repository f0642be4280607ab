theorem dX5_init_0 : decode cX5_init 0 = .ok (.aload_n 0, 1) := by decide +kernel
theorem dX5_init_1 : decode cX5_init 1 = .ok (.invokespecial 1, 3) := by decide +kernel
theorem dX5_init_4 : decode cX5_init 4 = .ok (.aload_n 0, 1) := by decide +kernel
theorem dX5_init_5 : decode cX5_init 5 = .ok (.new 7, 3) := by decide +kernel
theorem dX5_init_8 : decode cX5_init 8 = .ok (.dup, 1) := by decide +kernel
theorem dX5_init_9 : decode cX5_init 9 = .ok (.invokespecial 9, 3) := by decide +kernel
theorem dX5_init_12 : decode cX5_init 12 = .ok (.putfield 10, 3) := by decide +kernel
theorem dX5_init_15 : decode cX5_init 15 = .ok (.aload_n 0, 1) := by decide +kernel
theorem dX5_init_16 : decode cX5_init 16 = .ok (.new 7, 3) := by decide +kernel
theorem dX5_init_19 : decode cX5_init 19 = .ok (.dup, 1) := by decide +kernel
theorem dX5_init_20 : decode cX5_init 20 = .ok (.invokespecial 9, 3) := by decide +kernel
theorem dX5_init_23 : decode cX5_init 23 = .ok (.putfield 16, 3) := by decide +kernel
theorem dX5_init_26 : decode cX5_init 26 = .ok (.aload_n 0, 1) := by decide +kernel
theorem dX5_init_27 : decode cX5_init 27 = .ok (.new 7, 3) := by decide +kernel
theorem dX5_init_30 : decode cX5_init 30 = .ok (.dup, 1) := by decide +kernel
theorem dX5_init_31 : decode cX5_init 31 = .ok (.invokespecial 9, 3) := by decide +kernel
theorem dX5_init_34 : decode cX5_init 34 = .ok (.putfield 19, 3) := by decide +kernel
theorem dX5_init_37 : decode cX5_init 37 = .ok (.aload_n 0, 1) := by decide +kernel
theorem dX5_init_38 : decode cX5_init 38 = .ok (.iconst 0, 1) := by decide +kernel
theorem dX5_init_39 : decode cX5_init 39 = .ok (.putfield 22, 3) := by decide +kernel
theorem dX5_init_42 : decode cX5_init 42 = .ok (.aload_n 0, 1) := by decide +kernel
theorem dX5_init_43 : decode cX5_init 43 = .ok (.new 26, 3) := by decide +kernel
theorem dX5_init_46 : decode cX5_init 46 = .ok (.dup, 1) := by decide +kernel
theorem dX5_init_47 : decode cX5_init 47 = .ok (.invokespecial 28, 3) := by decide +kernel
theorem dX5_init_50 : decode cX5_init 50 = .ok (.putfield 29, 3) := by decide +kernel
theorem dX5_init_53 : decode cX5_init 53 = .ok (.aload_n 0, 1) := by decide +kernel
theorem dX5_init_54 : decode cX5_init 54 = .ok (.new 33, 3) := by decide +kernel
theorem dX5_init_57 : decode cX5_init 57 = .ok (.dup, 1) := by decide +kernel
theorem dX5_init_58 : decode cX5_init 58 = .ok (.invokespecial 35, 3) := by decide +kernel
theorem dX5_init_61 : decode cX5_init 61 = .ok (.putfield 36, 3) := by decide +kernel
theorem dX5_init_64 : decode cX5_init 64 = .ok (.aload_n 0, 1) := by decide +kernel
theorem dX5_init_65 : decode cX5_init 65 = .ok (.new 40, 3) := by decide +kernel
theorem dX5_init_68 : decode cX5_init 68 = .ok (.dup, 1) := by decide +kernel
theorem dX5_init_69 : decode cX5_init 69 = .ok (.invokespecial 42, 3) := by decide +kernel
theorem dX5_init_72 : decode cX5_init 72 = .ok (.putfield 43, 3) := by decide +kernel
theorem dX5_init_75 : decode cX5_init 75 = .ok (.aload_n 0, 1) := by decide +kernel
theorem dX5_init_76 : decode cX5_init 76 = .ok (.bipush 120, 2) := by decide +kernel
theorem dX5_init_78 : decode cX5_init 78 = .ok (.newarray .int, 2) := by decide +kernel
theorem dX5_init_80 : decode cX5_init 80 = .ok (.putfield 47, 3) := by decide +kernel
theorem dX5_init_83 : decode cX5_init 83 = .ok (.aload_n 0, 1) := by decide +kernel
theorem dX5_init_84 : decode cX5_init 84 = .ok (.iconst 0, 1) := by decide +kernel
theorem dX5_init_85 : decode cX5_init 85 = .ok (.putfield 51, 3) := by decide +kernel
theorem dX5_init_88 : decode cX5_init 88 = .ok (.aload_n 0, 1) := by decide +kernel
theorem dX5_init_89 : decode cX5_init 89 = .ok (.bipush 9, 2) := by decide +kernel
theorem dX5_init_91 : decode cX5_init 91 = .ok (.newarray .int, 2) := by decide +kernel
theorem dX5_init_93 : decode cX5_init 93 = .ok (.putfield 55, 3) := by decide +kernel
theorem dX5_init_96 : decode cX5_init 96 = .ok (.aload_n 0, 1) := by decide +kernel
theorem dX5_init_97 : decode cX5_init 97 = .ok (.iconst 0, 1) := by decide +kernel
theorem dX5_init_98 : decode cX5_init 98 = .ok (.putfield 58, 3) := by decide +kernel
theorem dX5_init_101 : decode cX5_init 101 = .ok (.aload_n 0, 1) := by decide +kernel
theorem dX5_init_102 : decode cX5_init 102 = .ok (.iconst 3, 1) := by decide +kernel
theorem dX5_init_103 : decode cX5_init 103 = .ok (.anewarray 61, 3) := by decide +kernel
theorem dX5_init_106 : decode cX5_init 106 = .ok (.putfield 63, 3) := by decide +kernel
theorem dX5_init_109 : decode cX5_init 109 = .ok (.aload_n 0, 1) := by decide +kernel
theorem dX5_init_110 : decode cX5_init 110 = .ok (.bipush 7, 2) := by decide +kernel
theorem dX5_init_112 : decode cX5_init 112 = .ok (.newarray .int, 2) := by decide +kernel
theorem dX5_init_114 : decode cX5_init 114 = .ok (.putfield 67, 3) := by decide +kernel
theorem dX5_init_117 : decode cX5_init 117 = .ok (.iconst 0, 1) := by decide +kernel
theorem dX5_init_118 : decode cX5_init 118 = .ok (.istore_n 1, 1) := by decide +kernel
theorem dX5_init_119 : decode cX5_init 119 = .ok (.iload_n 1, 1) := by decide +kernel
theorem dX5_init_120 : decode cX5_init 120 = .ok (.iconst 3, 1) := by decide +kernel
theorem dX5_init_121 : decode cX5_init 121 = .ok (.if_icmp .ge 22, 3) := by decide +kernel
theorem dX5_init_124 : decode cX5_init 124 = .ok (.aload_n 0, 1) := by decide +kernel
theorem dX5_init_125 : decode cX5_init 125 = .ok (.getfield 63, 3) := by decide +kernel
theorem dX5_init_128 : decode cX5_init 128 = .ok (.iload_n 1, 1) := by decide +kernel
theorem dX5_init_129 : decode cX5_init 129 = .ok (.new 61, 3) := by decide +kernel
theorem dX5_init_132 : decode cX5_init 132 = .ok (.dup, 1) := by decide +kernel
theorem dX5_init_133 : decode cX5_init 133 = .ok (.invokespecial 70, 3) := by decide +kernel
theorem dX5_init_136 : decode cX5_init 136 = .ok (.aastore, 1) := by decide +kernel
theorem dX5_init_137 : decode cX5_init 137 = .ok (.iinc 1 1, 3) := by decide +kernel
theorem dX5_init_140 : decode cX5_init 140 = .ok (.goto (-21), 3) := by decide +kernel
theorem dX5_init_143 : decode cX5_init 143 = .ok (.return_, 1) := by decide +kernel
theorem dX5_letter_0 : decode cX5_letter 0 = .ok (.iload_n 1, 1) := by decide +kernel
theorem dX5_letter_1 : decode cX5_letter 1 = .ok (.ifCond .ge 10, 3) := by decide +kernel
theorem dX5_letter_4 : decode cX5_letter 4 = .ok (.aload_n 0, 1) := by decide +kernel
theorem dX5_letter_5 : decode cX5_letter 5 = .ok (.bipush (-4), 2) := by decide +kernel
theorem dX5_letter_7 : decode cX5_letter 7 = .ok (.invokevirtual 71, 3) := by decide +kernel
theorem dX5_letter_10 : decode cX5_letter 10 = .ok (.ireturn, 1) := by decide +kernel
theorem dX5_letter_11 : decode cX5_letter 11 = .ok (.iload_n 1, 1) := by decide +kernel
theorem dX5_letter_12 : decode cX5_letter 12 = .ok (.sipush 255, 3) := by decide +kernel
theorem dX5_letter_15 : decode cX5_letter 15 = .ok (.if_icmp .gt 12, 3) := by decide +kernel
theorem dX5_letter_18 : decode cX5_letter 18 = .ok (.aload_n 0, 1) := by decide +kernel
theorem dX5_letter_19 : decode cX5_letter 19 = .ok (.getfield 51, 3) := by decide +kernel
theorem dX5_letter_22 : decode cX5_letter 22 = .ok (.bipush 120, 2) := by decide +kernel
theorem dX5_letter_24 : decode cX5_letter 24 = .ok (.if_icmp .lt 10, 3) := by decide +kernel
theorem dX5_letter_27 : decode cX5_letter 27 = .ok (.aload_n 0, 1) := by decide +kernel
theorem dX5_letter_28 : decode cX5_letter 28 = .ok (.bipush (-6), 2) := by decide +kernel
theorem dX5_letter_30 : decode cX5_letter 30 = .ok (.invokevirtual 71, 3) := by decide +kernel
theorem dX5_letter_33 : decode cX5_letter 33 = .ok (.ireturn, 1) := by decide +kernel
theorem dX5_letter_34 : decode cX5_letter 34 = .ok (.aload_n 0, 1) := by decide +kernel
theorem dX5_letter_35 : decode cX5_letter 35 = .ok (.getfield 47, 3) := by decide +kernel
theorem dX5_letter_38 : decode cX5_letter 38 = .ok (.aload_n 0, 1) := by decide +kernel
theorem dX5_letter_39 : decode cX5_letter 39 = .ok (.getfield 51, 3) := by decide +kernel
theorem dX5_letter_42 : decode cX5_letter 42 = .ok (.iload_n 1, 1) := by decide +kernel
theorem dX5_letter_43 : decode cX5_letter 43 = .ok (.iastore, 1) := by decide +kernel
theorem dX5_letter_44 : decode cX5_letter 44 = .ok (.aload_n 0, 1) := by decide +kernel
theorem dX5_letter_45 : decode cX5_letter 45 = .ok (.dup, 1) := by decide +kernel
theorem dX5_letter_46 : decode cX5_letter 46 = .ok (.getfield 51, 3) := by decide +kernel
theorem dX5_letter_49 : decode cX5_letter 49 = .ok (.iconst 1, 1) := by decide +kernel
theorem dX5_letter_50 : decode cX5_letter 50 = .ok (.iadd, 1) := by decide +kernel
theorem dX5_letter_51 : decode cX5_letter 51 = .ok (.putfield 51, 3) := by decide +kernel
theorem dX5_letter_54 : decode cX5_letter 54 = .ok (.aload_n 0, 1) := by decide +kernel
theorem dX5_letter_55 : decode cX5_letter 55 = .ok (.getfield 51, 3) := by decide +kernel
theorem dX5_letter_58 : decode cX5_letter 58 = .ok (.ireturn, 1) := by decide +kernel
theorem dX5_tells_0 : decode cX5_tells 0 = .ok (.aload_n 0, 1) := by decide +kernel
theorem dX5_tells_1 : decode cX5_tells 1 = .ok (.getfield 16, 3) := by decide +kernel
theorem dX5_tells_4 : decode cX5_tells 4 = .ok (.aload_n 0, 1) := by decide +kernel
theorem dX5_tells_5 : decode cX5_tells 5 = .ok (.getfield 10, 3) := by decide +kernel
theorem dX5_tells_8 : decode cX5_tells 8 = .ok (.invokevirtual 75, 3) := by decide +kernel
theorem dX5_tells_11 : decode cX5_tells 11 = .ok (.aload_n 0, 1) := by decide +kernel
theorem dX5_tells_12 : decode cX5_tells 12 = .ok (.getfield 43, 3) := by decide +kernel
theorem dX5_tells_15 : decode cX5_tells 15 = .ok (.aload_n 0, 1) := by decide +kernel
theorem dX5_tells_16 : decode cX5_tells 16 = .ok (.getfield 47, 3) := by decide +kernel
theorem dX5_tells_19 : decode cX5_tells 19 = .ok (.aload_n 0, 1) := by decide +kernel
theorem dX5_tells_20 : decode cX5_tells 20 = .ok (.getfield 51, 3) := by decide +kernel
theorem dX5_tells_23 : decode cX5_tells 23 = .ok (.aload_n 0, 1) := by decide +kernel
theorem dX5_tells_24 : decode cX5_tells 24 = .ok (.getfield 16, 3) := by decide +kernel
theorem dX5_tells_27 : decode cX5_tells 27 = .ok (.invokevirtual 79, 3) := by decide +kernel
theorem dX5_tells_30 : decode cX5_tells 30 = .ok (.istore_n 1, 1) := by decide +kernel
theorem dX5_tells_31 : decode cX5_tells 31 = .ok (.aload_n 0, 1) := by decide +kernel
theorem dX5_tells_32 : decode cX5_tells 32 = .ok (.iconst 0, 1) := by decide +kernel
theorem dX5_tells_33 : decode cX5_tells 33 = .ok (.putfield 51, 3) := by decide +kernel
theorem dX5_tells_36 : decode cX5_tells 36 = .ok (.iload_n 1, 1) := by decide +kernel
theorem dX5_tells_37 : decode cX5_tells 37 = .ok (.ifCond .le 25, 3) := by decide +kernel
theorem dX5_tells_40 : decode cX5_tells 40 = .ok (.aload_n 0, 1) := by decide +kernel
theorem dX5_tells_41 : decode cX5_tells 41 = .ok (.getfield 29, 3) := by decide +kernel
theorem dX5_tells_44 : decode cX5_tells 44 = .ok (.aload_n 0, 1) := by decide +kernel
theorem dX5_tells_45 : decode cX5_tells 45 = .ok (.getfield 10, 3) := by decide +kernel
theorem dX5_tells_48 : decode cX5_tells 48 = .ok (.invokevirtual 83, 3) := by decide +kernel
theorem dX5_tells_51 : decode cX5_tells 51 = .ok (.aload_n 0, 1) := by decide +kernel
theorem dX5_tells_52 : decode cX5_tells 52 = .ok (.getfield 10, 3) := by decide +kernel
theorem dX5_tells_55 : decode cX5_tells 55 = .ok (.aload_n 0, 1) := by decide +kernel
theorem dX5_tells_56 : decode cX5_tells 56 = .ok (.getfield 16, 3) := by decide +kernel
theorem dX5_tells_59 : decode cX5_tells 59 = .ok (.invokevirtual 75, 3) := by decide +kernel
theorem dX5_tells_62 : decode cX5_tells 62 = .ok (.iload_n 1, 1) := by decide +kernel
theorem dX5_tells_63 : decode cX5_tells 63 = .ok (.ireturn, 1) := by decide +kernel
theorem dX5_side_0 : decode cX5_side 0 = .ok (.aload_n 0, 1) := by decide +kernel
theorem dX5_side_1 : decode cX5_side 1 = .ok (.getfield 10, 3) := by decide +kernel
theorem dX5_side_4 : decode cX5_side 4 = .ok (.iload_n 1, 1) := by decide +kernel
theorem dX5_side_5 : decode cX5_side 5 = .ok (.iload_n 2, 1) := by decide +kernel
theorem dX5_side_6 : decode cX5_side 6 = .ok (.iload_n 3, 1) := by decide +kernel
theorem dX5_side_7 : decode cX5_side 7 = .ok (.invokevirtual 86, 3) := by decide +kernel
theorem dX5_side_10 : decode cX5_side 10 = .ok (.istore 4, 2) := by decide +kernel
theorem dX5_side_12 : decode cX5_side 12 = .ok (.iload 4, 2) := by decide +kernel
theorem dX5_side_14 : decode cX5_side 14 = .ok (.ifCond .eq 10, 3) := by decide +kernel
theorem dX5_side_17 : decode cX5_side 17 = .ok (.aload_n 0, 1) := by decide +kernel
theorem dX5_side_18 : decode cX5_side 18 = .ok (.iload 4, 2) := by decide +kernel
theorem dX5_side_20 : decode cX5_side 20 = .ok (.invokevirtual 71, 3) := by decide +kernel
theorem dX5_side_23 : decode cX5_side 23 = .ok (.ireturn, 1) := by decide +kernel
theorem dX5_side_24 : decode cX5_side 24 = .ok (.aload_n 0, 1) := by decide +kernel
theorem dX5_side_25 : decode cX5_side 25 = .ok (.getfield 29, 3) := by decide +kernel
theorem dX5_side_28 : decode cX5_side 28 = .ok (.aload_n 0, 1) := by decide +kernel
theorem dX5_side_29 : decode cX5_side 29 = .ok (.getfield 10, 3) := by decide +kernel
theorem dX5_side_32 : decode cX5_side 32 = .ok (.invokevirtual 83, 3) := by decide +kernel
theorem dX5_side_35 : decode cX5_side 35 = .ok (.aload_n 0, 1) := by decide +kernel
theorem dX5_side_36 : decode cX5_side 36 = .ok (.getfield 10, 3) := by decide +kernel
theorem dX5_side_39 : decode cX5_side 39 = .ok (.aload_n 0, 1) := by decide +kernel
theorem dX5_side_40 : decode cX5_side 40 = .ok (.getfield 10, 3) := by decide +kernel
theorem dX5_side_43 : decode cX5_side 43 = .ok (.getfield 90, 3) := by decide +kernel
theorem dX5_side_46 : decode cX5_side 46 = .ok (.iload_n 1, 1) := by decide +kernel
theorem dX5_side_47 : decode cX5_side 47 = .ok (.iload_n 2, 1) := by decide +kernel
theorem dX5_side_48 : decode cX5_side 48 = .ok (.iload_n 3, 1) := by decide +kernel
theorem dX5_side_49 : decode cX5_side 49 = .ok (.invokevirtual 93, 3) := by decide +kernel
theorem dX5_side_52 : decode cX5_side 52 = .ok (.ireturn, 1) := by decide +kernel
theorem dX5_insert_0 : decode cX5_insert 0 = .ok (.aload_n 0, 1) := by decide +kernel
theorem dX5_insert_1 : decode cX5_insert 1 = .ok (.getfield 10, 3) := by decide +kernel
theorem dX5_insert_4 : decode cX5_insert 4 = .ok (.iload_n 1, 1) := by decide +kernel
theorem dX5_insert_5 : decode cX5_insert 5 = .ok (.iload_n 2, 1) := by decide +kernel
theorem dX5_insert_6 : decode cX5_insert 6 = .ok (.iload_n 3, 1) := by decide +kernel
theorem dX5_insert_7 : decode cX5_insert 7 = .ok (.iload 4, 2) := by decide +kernel
theorem dX5_insert_9 : decode cX5_insert 9 = .ok (.invokevirtual 97, 3) := by decide +kernel
theorem dX5_insert_12 : decode cX5_insert 12 = .ok (.istore 5, 2) := by decide +kernel
theorem dX5_insert_14 : decode cX5_insert 14 = .ok (.iload 5, 2) := by decide +kernel
theorem dX5_insert_16 : decode cX5_insert 16 = .ok (.ifCond .eq 10, 3) := by decide +kernel
theorem dX5_insert_19 : decode cX5_insert 19 = .ok (.aload_n 0, 1) := by decide +kernel
theorem dX5_insert_20 : decode cX5_insert 20 = .ok (.iload 5, 2) := by decide +kernel
theorem dX5_insert_22 : decode cX5_insert 22 = .ok (.invokevirtual 71, 3) := by decide +kernel
theorem dX5_insert_25 : decode cX5_insert 25 = .ok (.ireturn, 1) := by decide +kernel
theorem dX5_insert_26 : decode cX5_insert 26 = .ok (.aload_n 0, 1) := by decide +kernel
theorem dX5_insert_27 : decode cX5_insert 27 = .ok (.getfield 29, 3) := by decide +kernel
theorem dX5_insert_30 : decode cX5_insert 30 = .ok (.aload_n 0, 1) := by decide +kernel
theorem dX5_insert_31 : decode cX5_insert 31 = .ok (.getfield 10, 3) := by decide +kernel
theorem dX5_insert_34 : decode cX5_insert 34 = .ok (.invokevirtual 83, 3) := by decide +kernel
theorem dX5_insert_37 : decode cX5_insert 37 = .ok (.aload_n 0, 1) := by decide +kernel
theorem dX5_insert_38 : decode cX5_insert 38 = .ok (.getfield 10, 3) := by decide +kernel
theorem dX5_insert_41 : decode cX5_insert 41 = .ok (.iload_n 1, 1) := by decide +kernel
theorem dX5_insert_42 : decode cX5_insert 42 = .ok (.iload_n 2, 1) := by decide +kernel
theorem dX5_insert_43 : decode cX5_insert 43 = .ok (.iload_n 3, 1) := by decide +kernel
theorem dX5_insert_44 : decode cX5_insert 44 = .ok (.iload 4, 2) := by decide +kernel
theorem dX5_insert_46 : decode cX5_insert 46 = .ok (.invokevirtual 93, 3) := by decide +kernel
theorem dX5_insert_49 : decode cX5_insert 49 = .ok (.ireturn, 1) := by decide +kernel
theorem dX5_kind_0 : decode cX5_kind 0 = .ok (.aload_n 0, 1) := by decide +kernel
theorem dX5_kind_1 : decode cX5_kind 1 = .ok (.getfield 10, 3) := by decide +kernel
theorem dX5_kind_4 : decode cX5_kind 4 = .ok (.iload_n 1, 1) := by decide +kernel
theorem dX5_kind_5 : decode cX5_kind 5 = .ok (.iload_n 2, 1) := by decide +kernel
theorem dX5_kind_6 : decode cX5_kind 6 = .ok (.iload_n 3, 1) := by decide +kernel
theorem dX5_kind_7 : decode cX5_kind 7 = .ok (.invokevirtual 100, 3) := by decide +kernel
theorem dX5_kind_10 : decode cX5_kind 10 = .ok (.istore 4, 2) := by decide +kernel
theorem dX5_kind_12 : decode cX5_kind 12 = .ok (.iload 4, 2) := by decide +kernel
theorem dX5_kind_14 : decode cX5_kind 14 = .ok (.ifCond .eq 10, 3) := by decide +kernel
theorem dX5_kind_17 : decode cX5_kind 17 = .ok (.aload_n 0, 1) := by decide +kernel
theorem dX5_kind_18 : decode cX5_kind 18 = .ok (.iload 4, 2) := by decide +kernel
theorem dX5_kind_20 : decode cX5_kind 20 = .ok (.invokevirtual 71, 3) := by decide +kernel
theorem dX5_kind_23 : decode cX5_kind 23 = .ok (.ireturn, 1) := by decide +kernel
theorem dX5_kind_24 : decode cX5_kind 24 = .ok (.aload_n 0, 1) := by decide +kernel
theorem dX5_kind_25 : decode cX5_kind 25 = .ok (.getfield 29, 3) := by decide +kernel
theorem dX5_kind_28 : decode cX5_kind 28 = .ok (.aload_n 0, 1) := by decide +kernel
theorem dX5_kind_29 : decode cX5_kind 29 = .ok (.getfield 10, 3) := by decide +kernel
theorem dX5_kind_32 : decode cX5_kind 32 = .ok (.invokevirtual 83, 3) := by decide +kernel
theorem dX5_kind_35 : decode cX5_kind 35 = .ok (.aload_n 0, 1) := by decide +kernel
theorem dX5_kind_36 : decode cX5_kind 36 = .ok (.getfield 10, 3) := by decide +kernel
theorem dX5_kind_39 : decode cX5_kind 39 = .ok (.iload_n 1, 1) := by decide +kernel
theorem dX5_kind_40 : decode cX5_kind 40 = .ok (.iload_n 2, 1) := by decide +kernel
theorem dX5_kind_41 : decode cX5_kind 41 = .ok (.iload_n 3, 1) := by decide +kernel
theorem dX5_kind_42 : decode cX5_kind 42 = .ok (.invokevirtual 103, 3) := by decide +kernel
theorem dX5_kind_45 : decode cX5_kind 45 = .ok (.ireturn, 1) := by decide +kernel
theorem dX5_gone_0 : decode cX5_gone 0 = .ok (.aload_n 0, 1) := by decide +kernel
theorem dX5_gone_1 : decode cX5_gone 1 = .ok (.getfield 10, 3) := by decide +kernel
theorem dX5_gone_4 : decode cX5_gone 4 = .ok (.iload_n 1, 1) := by decide +kernel
theorem dX5_gone_5 : decode cX5_gone 5 = .ok (.invokevirtual 105, 3) := by decide +kernel
theorem dX5_gone_8 : decode cX5_gone 8 = .ok (.ifCond .ne 9, 3) := by decide +kernel
theorem dX5_gone_11 : decode cX5_gone 11 = .ok (.aload_n 0, 1) := by decide +kernel
theorem dX5_gone_12 : decode cX5_gone 12 = .ok (.iconst (-1), 1) := by decide +kernel
theorem dX5_gone_13 : decode cX5_gone 13 = .ok (.invokevirtual 71, 3) := by decide +kernel
theorem dX5_gone_16 : decode cX5_gone 16 = .ok (.ireturn, 1) := by decide +kernel
theorem dX5_gone_17 : decode cX5_gone 17 = .ok (.aload_n 0, 1) := by decide +kernel
theorem dX5_gone_18 : decode cX5_gone 18 = .ok (.getfield 29, 3) := by decide +kernel
theorem dX5_gone_21 : decode cX5_gone 21 = .ok (.aload_n 0, 1) := by decide +kernel
theorem dX5_gone_22 : decode cX5_gone 22 = .ok (.getfield 10, 3) := by decide +kernel
theorem dX5_gone_25 : decode cX5_gone 25 = .ok (.invokevirtual 83, 3) := by decide +kernel
theorem dX5_gone_28 : decode cX5_gone 28 = .ok (.aload_n 0, 1) := by decide +kernel
theorem dX5_gone_29 : decode cX5_gone 29 = .ok (.getfield 10, 3) := by decide +kernel
theorem dX5_gone_32 : decode cX5_gone 32 = .ok (.iload_n 1, 1) := by decide +kernel
theorem dX5_gone_33 : decode cX5_gone 33 = .ok (.invokevirtual 109, 3) := by decide +kernel
theorem dX5_gone_36 : decode cX5_gone 36 = .ok (.ireturn, 1) := by decide +kernel
theorem dX5_turned_0 : decode cX5_turned 0 = .ok (.aload_n 0, 1) := by decide +kernel
theorem dX5_turned_1 : decode cX5_turned 1 = .ok (.getfield 29, 3) := by decide +kernel
theorem dX5_turned_4 : decode cX5_turned 4 = .ok (.aload_n 0, 1) := by decide +kernel
theorem dX5_turned_5 : decode cX5_turned 5 = .ok (.getfield 10, 3) := by decide +kernel
theorem dX5_turned_8 : decode cX5_turned 8 = .ok (.invokevirtual 83, 3) := by decide +kernel
theorem dX5_turned_11 : decode cX5_turned 11 = .ok (.aload_n 0, 1) := by decide +kernel
theorem dX5_turned_12 : decode cX5_turned 12 = .ok (.getfield 10, 3) := by decide +kernel
theorem dX5_turned_15 : decode cX5_turned 15 = .ok (.invokevirtual 112, 3) := by decide +kernel
theorem dX5_turned_18 : decode cX5_turned 18 = .ok (.ireturn, 1) := by decide +kernel
theorem dX5_of_0 : decode cX5_of 0 = .ok (.aload_n 0, 1) := by decide +kernel
theorem dX5_of_1 : decode cX5_of 1 = .ok (.getfield 10, 3) := by decide +kernel
theorem dX5_of_4 : decode cX5_of 4 = .ok (.iload_n 1, 1) := by decide +kernel
theorem dX5_of_5 : decode cX5_of 5 = .ok (.invokevirtual 105, 3) := by decide +kernel
theorem dX5_of_8 : decode cX5_of 8 = .ok (.ifCond .ne 9, 3) := by decide +kernel
theorem dX5_of_11 : decode cX5_of 11 = .ok (.aload_n 0, 1) := by decide +kernel
theorem dX5_of_12 : decode cX5_of 12 = .ok (.iconst (-1), 1) := by decide +kernel
theorem dX5_of_13 : decode cX5_of 13 = .ok (.invokevirtual 116, 3) := by decide +kernel
theorem dX5_of_16 : decode cX5_of 16 = .ok (.lreturn, 1) := by decide +kernel
theorem dX5_of_17 : decode cX5_of 17 = .ok (.iload_n 2, 1) := by decide +kernel
theorem dX5_of_18 : decode cX5_of 18 = .ok (.tableswitch 131 0 7 #[46, 57, 68, 79, 90, 101, 111, 121], 46) := by decide +kernel
theorem dX5_of_64 : decode cX5_of 64 = .ok (.aload_n 0, 1) := by decide +kernel
theorem dX5_of_65 : decode cX5_of 65 = .ok (.getfield 10, 3) := by decide +kernel
theorem dX5_of_68 : decode cX5_of 68 = .ok (.getfield 120, 3) := by decide +kernel
theorem dX5_of_71 : decode cX5_of 71 = .ok (.iload_n 1, 1) := by decide +kernel
theorem dX5_of_72 : decode cX5_of 72 = .ok (.iaload, 1) := by decide +kernel
theorem dX5_of_73 : decode cX5_of 73 = .ok (.i2l, 1) := by decide +kernel
theorem dX5_of_74 : decode cX5_of 74 = .ok (.lreturn, 1) := by decide +kernel
theorem dX5_of_75 : decode cX5_of 75 = .ok (.aload_n 0, 1) := by decide +kernel
theorem dX5_of_76 : decode cX5_of 76 = .ok (.getfield 10, 3) := by decide +kernel
theorem dX5_of_79 : decode cX5_of 79 = .ok (.getfield 123, 3) := by decide +kernel
theorem dX5_of_82 : decode cX5_of 82 = .ok (.iload_n 1, 1) := by decide +kernel
theorem dX5_of_83 : decode cX5_of 83 = .ok (.iaload, 1) := by decide +kernel
theorem dX5_of_84 : decode cX5_of 84 = .ok (.i2l, 1) := by decide +kernel
theorem dX5_of_85 : decode cX5_of 85 = .ok (.lreturn, 1) := by decide +kernel
theorem dX5_of_86 : decode cX5_of 86 = .ok (.aload_n 0, 1) := by decide +kernel
theorem dX5_of_87 : decode cX5_of 87 = .ok (.getfield 10, 3) := by decide +kernel
theorem dX5_of_90 : decode cX5_of 90 = .ok (.getfield 126, 3) := by decide +kernel
theorem dX5_of_93 : decode cX5_of 93 = .ok (.iload_n 1, 1) := by decide +kernel
theorem dX5_of_94 : decode cX5_of 94 = .ok (.iaload, 1) := by decide +kernel
theorem dX5_of_95 : decode cX5_of 95 = .ok (.i2l, 1) := by decide +kernel
theorem dX5_of_96 : decode cX5_of 96 = .ok (.lreturn, 1) := by decide +kernel
theorem dX5_of_97 : decode cX5_of 97 = .ok (.aload_n 0, 1) := by decide +kernel
theorem dX5_of_98 : decode cX5_of 98 = .ok (.getfield 10, 3) := by decide +kernel
theorem dX5_of_101 : decode cX5_of 101 = .ok (.getfield 129, 3) := by decide +kernel
theorem dX5_of_104 : decode cX5_of 104 = .ok (.iload_n 1, 1) := by decide +kernel
theorem dX5_of_105 : decode cX5_of 105 = .ok (.iaload, 1) := by decide +kernel
theorem dX5_of_106 : decode cX5_of 106 = .ok (.i2l, 1) := by decide +kernel
theorem dX5_of_107 : decode cX5_of 107 = .ok (.lreturn, 1) := by decide +kernel
theorem dX5_of_108 : decode cX5_of 108 = .ok (.aload_n 0, 1) := by decide +kernel
theorem dX5_of_109 : decode cX5_of 109 = .ok (.getfield 10, 3) := by decide +kernel
theorem dX5_of_112 : decode cX5_of 112 = .ok (.getfield 132, 3) := by decide +kernel
theorem dX5_of_115 : decode cX5_of 115 = .ok (.iload_n 1, 1) := by decide +kernel
theorem dX5_of_116 : decode cX5_of 116 = .ok (.iaload, 1) := by decide +kernel
theorem dX5_of_117 : decode cX5_of 117 = .ok (.i2l, 1) := by decide +kernel
theorem dX5_of_118 : decode cX5_of 118 = .ok (.lreturn, 1) := by decide +kernel
theorem dX5_of_119 : decode cX5_of 119 = .ok (.aload_n 0, 1) := by decide +kernel
theorem dX5_of_120 : decode cX5_of 120 = .ok (.getfield 10, 3) := by decide +kernel
theorem dX5_of_123 : decode cX5_of 123 = .ok (.iload_n 1, 1) := by decide +kernel
theorem dX5_of_124 : decode cX5_of 124 = .ok (.invokevirtual 135, 3) := by decide +kernel
theorem dX5_of_127 : decode cX5_of 127 = .ok (.i2l, 1) := by decide +kernel
theorem dX5_of_128 : decode cX5_of 128 = .ok (.lreturn, 1) := by decide +kernel
theorem dX5_of_129 : decode cX5_of 129 = .ok (.aload_n 0, 1) := by decide +kernel
theorem dX5_of_130 : decode cX5_of 130 = .ok (.getfield 10, 3) := by decide +kernel
theorem dX5_of_133 : decode cX5_of 133 = .ok (.iload_n 1, 1) := by decide +kernel
theorem dX5_of_134 : decode cX5_of 134 = .ok (.invokevirtual 138, 3) := by decide +kernel
theorem dX5_of_137 : decode cX5_of 137 = .ok (.i2l, 1) := by decide +kernel
theorem dX5_of_138 : decode cX5_of 138 = .ok (.lreturn, 1) := by decide +kernel
theorem dX5_of_139 : decode cX5_of 139 = .ok (.aload_n 0, 1) := by decide +kernel
theorem dX5_of_140 : decode cX5_of 140 = .ok (.getfield 10, 3) := by decide +kernel
theorem dX5_of_143 : decode cX5_of 143 = .ok (.iload_n 1, 1) := by decide +kernel
theorem dX5_of_144 : decode cX5_of 144 = .ok (.invokevirtual 141, 3) := by decide +kernel
theorem dX5_of_147 : decode cX5_of 147 = .ok (.i2l, 1) := by decide +kernel
theorem dX5_of_148 : decode cX5_of 148 = .ok (.lreturn, 1) := by decide +kernel
theorem dX5_of_149 : decode cX5_of 149 = .ok (.aload_n 0, 1) := by decide +kernel
theorem dX5_of_150 : decode cX5_of 150 = .ok (.bipush (-2), 2) := by decide +kernel
theorem dX5_of_152 : decode cX5_of 152 = .ok (.invokevirtual 116, 3) := by decide +kernel
theorem dX5_of_155 : decode cX5_of 155 = .ok (.lreturn, 1) := by decide +kernel
theorem dX5_miss_0 : decode cX5_miss 0 = .ok (.iload_n 1, 1) := by decide +kernel
theorem dX5_miss_1 : decode cX5_miss 1 = .ok (.invokestatic 144, 3) := by decide +kernel
theorem dX5_miss_4 : decode cX5_miss 4 = .ok (.ifCond .ne 10, 3) := by decide +kernel
theorem dX5_miss_7 : decode cX5_miss 7 = .ok (.aload_n 0, 1) := by decide +kernel
theorem dX5_miss_8 : decode cX5_miss 8 = .ok (.bipush (-2), 2) := by decide +kernel
theorem dX5_miss_10 : decode cX5_miss 10 = .ok (.invokevirtual 116, 3) := by decide +kernel
theorem dX5_miss_13 : decode cX5_miss 13 = .ok (.lreturn, 1) := by decide +kernel
theorem dX5_miss_14 : decode cX5_miss 14 = .ok (.iload_n 1, 1) := by decide +kernel
theorem dX5_miss_15 : decode cX5_miss 15 = .ok (.ifCond .ne 21, 3) := by decide +kernel
theorem dX5_miss_18 : decode cX5_miss 18 = .ok (.aload_n 0, 1) := by decide +kernel
theorem dX5_miss_19 : decode cX5_miss 19 = .ok (.getfield 10, 3) := by decide +kernel
theorem dX5_miss_22 : decode cX5_miss 22 = .ok (.aload_n 0, 1) := by decide +kernel
theorem dX5_miss_23 : decode cX5_miss 23 = .ok (.getfield 10, 3) := by decide +kernel
theorem dX5_miss_26 : decode cX5_miss 26 = .ok (.invokevirtual 147, 3) := by decide +kernel
theorem dX5_miss_29 : decode cX5_miss 29 = .ok (.invokevirtual 150, 3) := by decide +kernel
theorem dX5_miss_32 : decode cX5_miss 32 = .ok (.i2l, 1) := by decide +kernel
theorem dX5_miss_33 : decode cX5_miss 33 = .ok (.goto 18, 3) := by decide +kernel
theorem dX5_miss_36 : decode cX5_miss 36 = .ok (.aload_n 0, 1) := by decide +kernel
theorem dX5_miss_37 : decode cX5_miss 37 = .ok (.getfield 10, 3) := by decide +kernel
theorem dX5_miss_40 : decode cX5_miss 40 = .ok (.aload_n 0, 1) := by decide +kernel
theorem dX5_miss_41 : decode cX5_miss 41 = .ok (.getfield 10, 3) := by decide +kernel
theorem dX5_miss_44 : decode cX5_miss 44 = .ok (.invokevirtual 147, 3) := by decide +kernel
theorem dX5_miss_47 : decode cX5_miss 47 = .ok (.invokevirtual 153, 3) := by decide +kernel
theorem dX5_miss_50 : decode cX5_miss 50 = .ok (.i2l, 1) := by decide +kernel
theorem dX5_miss_51 : decode cX5_miss 51 = .ok (.lreturn, 1) := by decide +kernel
theorem dX5_spread_0 : decode cX5_spread 0 = .ok (.aload_n 0, 1) := by decide +kernel
theorem dX5_spread_1 : decode cX5_spread 1 = .ok (.getfield 10, 3) := by decide +kernel
theorem dX5_spread_4 : decode cX5_spread 4 = .ok (.iload_n 1, 1) := by decide +kernel
theorem dX5_spread_5 : decode cX5_spread 5 = .ok (.invokevirtual 105, 3) := by decide +kernel
theorem dX5_spread_8 : decode cX5_spread 8 = .ok (.ifCond .ne 9, 3) := by decide +kernel
theorem dX5_spread_11 : decode cX5_spread 11 = .ok (.aload_n 0, 1) := by decide +kernel
theorem dX5_spread_12 : decode cX5_spread 12 = .ok (.iconst (-1), 1) := by decide +kernel
theorem dX5_spread_13 : decode cX5_spread 13 = .ok (.invokevirtual 116, 3) := by decide +kernel
theorem dX5_spread_16 : decode cX5_spread 16 = .ok (.lreturn, 1) := by decide +kernel
theorem dX5_spread_17 : decode cX5_spread 17 = .ok (.iload_n 2, 1) := by decide +kernel
theorem dX5_spread_18 : decode cX5_spread 18 = .ok (.invokestatic 144, 3) := by decide +kernel
theorem dX5_spread_21 : decode cX5_spread 21 = .ok (.ifCond .eq 10, 3) := by decide +kernel
theorem dX5_spread_24 : decode cX5_spread 24 = .ok (.iload_n 3, 1) := by decide +kernel
theorem dX5_spread_25 : decode cX5_spread 25 = .ok (.invokestatic 144, 3) := by decide +kernel
theorem dX5_spread_28 : decode cX5_spread 28 = .ok (.ifCond .ne 10, 3) := by decide +kernel
theorem dX5_spread_31 : decode cX5_spread 31 = .ok (.aload_n 0, 1) := by decide +kernel
theorem dX5_spread_32 : decode cX5_spread 32 = .ok (.bipush (-2), 2) := by decide +kernel
theorem dX5_spread_34 : decode cX5_spread 34 = .ok (.invokevirtual 116, 3) := by decide +kernel
theorem dX5_spread_37 : decode cX5_spread 37 = .ok (.lreturn, 1) := by decide +kernel
theorem dX5_spread_38 : decode cX5_spread 38 = .ok (.aload_n 0, 1) := by decide +kernel
theorem dX5_spread_39 : decode cX5_spread 39 = .ok (.getfield 36, 3) := by decide +kernel
theorem dX5_spread_42 : decode cX5_spread 42 = .ok (.aload_n 0, 1) := by decide +kernel
theorem dX5_spread_43 : decode cX5_spread 43 = .ok (.getfield 10, 3) := by decide +kernel
theorem dX5_spread_46 : decode cX5_spread 46 = .ok (.invokevirtual 156, 3) := by decide +kernel
theorem dX5_spread_49 : decode cX5_spread 49 = .ok (.ifCond .ne 10, 3) := by decide +kernel
theorem dX5_spread_52 : decode cX5_spread 52 = .ok (.aload_n 0, 1) := by decide +kernel
theorem dX5_spread_53 : decode cX5_spread 53 = .ok (.bipush (-3), 2) := by decide +kernel
theorem dX5_spread_55 : decode cX5_spread 55 = .ok (.invokevirtual 116, 3) := by decide +kernel
theorem dX5_spread_58 : decode cX5_spread 58 = .ok (.lreturn, 1) := by decide +kernel
theorem dX5_spread_59 : decode cX5_spread 59 = .ok (.iload_n 2, 1) := by decide +kernel
theorem dX5_spread_60 : decode cX5_spread 60 = .ok (.ifCond .ne 15, 3) := by decide +kernel
theorem dX5_spread_63 : decode cX5_spread 63 = .ok (.aload_n 0, 1) := by decide +kernel
theorem dX5_spread_64 : decode cX5_spread 64 = .ok (.getfield 36, 3) := by decide +kernel
theorem dX5_spread_67 : decode cX5_spread 67 = .ok (.getfield 160, 3) := by decide +kernel
theorem dX5_spread_70 : decode cX5_spread 70 = .ok (.iload_n 1, 1) := by decide +kernel
theorem dX5_spread_71 : decode cX5_spread 71 = .ok (.laload, 1) := by decide +kernel
theorem dX5_spread_72 : decode cX5_spread 72 = .ok (.goto 12, 3) := by decide +kernel
theorem dX5_spread_75 : decode cX5_spread 75 = .ok (.aload_n 0, 1) := by decide +kernel
theorem dX5_spread_76 : decode cX5_spread 76 = .ok (.getfield 36, 3) := by decide +kernel
theorem dX5_spread_79 : decode cX5_spread 79 = .ok (.getfield 164, 3) := by decide +kernel
theorem dX5_spread_82 : decode cX5_spread 82 = .ok (.iload_n 1, 1) := by decide +kernel
theorem dX5_spread_83 : decode cX5_spread 83 = .ok (.laload, 1) := by decide +kernel
theorem dX5_spread_84 : decode cX5_spread 84 = .ok (.aload_n 0, 1) := by decide +kernel
theorem dX5_spread_85 : decode cX5_spread 85 = .ok (.getfield 36, 3) := by decide +kernel
theorem dX5_spread_88 : decode cX5_spread 88 = .ok (.getfield 167, 3) := by decide +kernel
theorem dX5_spread_91 : decode cX5_spread 91 = .ok (.iload_n 3, 1) := by decide +kernel
theorem dX5_spread_92 : decode cX5_spread 92 = .ok (.invokestatic 171, 3) := by decide +kernel
theorem dX5_spread_95 : decode cX5_spread 95 = .ok (.lreturn, 1) := by decide +kernel
theorem dX5_corner_0 : decode cX5_corner 0 = .ok (.aload_n 0, 1) := by decide +kernel
theorem dX5_corner_1 : decode cX5_corner 1 = .ok (.getfield 10, 3) := by decide +kernel
theorem dX5_corner_4 : decode cX5_corner 4 = .ok (.iload_n 1, 1) := by decide +kernel
theorem dX5_corner_5 : decode cX5_corner 5 = .ok (.invokevirtual 105, 3) := by decide +kernel
theorem dX5_corner_8 : decode cX5_corner 8 = .ok (.ifCond .ne 9, 3) := by decide +kernel
theorem dX5_corner_11 : decode cX5_corner 11 = .ok (.aload_n 0, 1) := by decide +kernel
theorem dX5_corner_12 : decode cX5_corner 12 = .ok (.iconst (-1), 1) := by decide +kernel
theorem dX5_corner_13 : decode cX5_corner 13 = .ok (.invokevirtual 116, 3) := by decide +kernel
theorem dX5_corner_16 : decode cX5_corner 16 = .ok (.lreturn, 1) := by decide +kernel
theorem dX5_corner_17 : decode cX5_corner 17 = .ok (.iload_n 2, 1) := by decide +kernel
theorem dX5_corner_18 : decode cX5_corner 18 = .ok (.invokestatic 144, 3) := by decide +kernel
theorem dX5_corner_21 : decode cX5_corner 21 = .ok (.ifCond .eq 10, 3) := by decide +kernel
theorem dX5_corner_24 : decode cX5_corner 24 = .ok (.iload_n 3, 1) := by decide +kernel
theorem dX5_corner_25 : decode cX5_corner 25 = .ok (.invokestatic 144, 3) := by decide +kernel
theorem dX5_corner_28 : decode cX5_corner 28 = .ok (.ifCond .ne 10, 3) := by decide +kernel
theorem dX5_corner_31 : decode cX5_corner 31 = .ok (.aload_n 0, 1) := by decide +kernel
theorem dX5_corner_32 : decode cX5_corner 32 = .ok (.bipush (-2), 2) := by decide +kernel
theorem dX5_corner_34 : decode cX5_corner 34 = .ok (.invokevirtual 116, 3) := by decide +kernel
theorem dX5_corner_37 : decode cX5_corner 37 = .ok (.lreturn, 1) := by decide +kernel
theorem dX5_corner_38 : decode cX5_corner 38 = .ok (.aload_n 0, 1) := by decide +kernel
theorem dX5_corner_39 : decode cX5_corner 39 = .ok (.getfield 36, 3) := by decide +kernel
theorem dX5_corner_42 : decode cX5_corner 42 = .ok (.aload_n 0, 1) := by decide +kernel
theorem dX5_corner_43 : decode cX5_corner 43 = .ok (.getfield 10, 3) := by decide +kernel
theorem dX5_corner_46 : decode cX5_corner 46 = .ok (.invokevirtual 156, 3) := by decide +kernel
theorem dX5_corner_49 : decode cX5_corner 49 = .ok (.ifCond .ne 10, 3) := by decide +kernel
theorem dX5_corner_52 : decode cX5_corner 52 = .ok (.aload_n 0, 1) := by decide +kernel
theorem dX5_corner_53 : decode cX5_corner 53 = .ok (.bipush (-3), 2) := by decide +kernel
theorem dX5_corner_55 : decode cX5_corner 55 = .ok (.invokevirtual 116, 3) := by decide +kernel
theorem dX5_corner_58 : decode cX5_corner 58 = .ok (.lreturn, 1) := by decide +kernel
theorem dX5_corner_59 : decode cX5_corner 59 = .ok (.iload_n 2, 1) := by decide +kernel
theorem dX5_corner_60 : decode cX5_corner 60 = .ok (.ifCond .ne 15, 3) := by decide +kernel
theorem dX5_corner_63 : decode cX5_corner 63 = .ok (.aload_n 0, 1) := by decide +kernel
theorem dX5_corner_64 : decode cX5_corner 64 = .ok (.getfield 36, 3) := by decide +kernel
theorem dX5_corner_67 : decode cX5_corner 67 = .ok (.getfield 175, 3) := by decide +kernel
theorem dX5_corner_70 : decode cX5_corner 70 = .ok (.iload_n 1, 1) := by decide +kernel
theorem dX5_corner_71 : decode cX5_corner 71 = .ok (.laload, 1) := by decide +kernel
theorem dX5_corner_72 : decode cX5_corner 72 = .ok (.goto 12, 3) := by decide +kernel
theorem dX5_corner_75 : decode cX5_corner 75 = .ok (.aload_n 0, 1) := by decide +kernel
theorem dX5_corner_76 : decode cX5_corner 76 = .ok (.getfield 36, 3) := by decide +kernel
theorem dX5_corner_79 : decode cX5_corner 79 = .ok (.getfield 177, 3) := by decide +kernel
theorem dX5_corner_82 : decode cX5_corner 82 = .ok (.iload_n 1, 1) := by decide +kernel
theorem dX5_corner_83 : decode cX5_corner 83 = .ok (.laload, 1) := by decide +kernel
theorem dX5_corner_84 : decode cX5_corner 84 = .ok (.aload_n 0, 1) := by decide +kernel
theorem dX5_corner_85 : decode cX5_corner 85 = .ok (.getfield 36, 3) := by decide +kernel
theorem dX5_corner_88 : decode cX5_corner 88 = .ok (.getfield 167, 3) := by decide +kernel
theorem dX5_corner_91 : decode cX5_corner 91 = .ok (.iload_n 3, 1) := by decide +kernel
theorem dX5_corner_92 : decode cX5_corner 92 = .ok (.invokestatic 171, 3) := by decide +kernel
theorem dX5_corner_95 : decode cX5_corner 95 = .ok (.lreturn, 1) := by decide +kernel
theorem dX5_area_0 : decode cX5_area 0 = .ok (.iload_n 1, 1) := by decide +kernel
theorem dX5_area_1 : decode cX5_area 1 = .ok (.invokestatic 144, 3) := by decide +kernel
theorem dX5_area_4 : decode cX5_area 4 = .ok (.ifCond .ne 10, 3) := by decide +kernel
theorem dX5_area_7 : decode cX5_area 7 = .ok (.aload_n 0, 1) := by decide +kernel
theorem dX5_area_8 : decode cX5_area 8 = .ok (.bipush (-2), 2) := by decide +kernel
theorem dX5_area_10 : decode cX5_area 10 = .ok (.invokevirtual 116, 3) := by decide +kernel
theorem dX5_area_13 : decode cX5_area 13 = .ok (.lreturn, 1) := by decide +kernel
theorem dX5_area_14 : decode cX5_area 14 = .ok (.aload_n 0, 1) := by decide +kernel
theorem dX5_area_15 : decode cX5_area 15 = .ok (.getfield 36, 3) := by decide +kernel
theorem dX5_area_18 : decode cX5_area 18 = .ok (.aload_n 0, 1) := by decide +kernel
theorem dX5_area_19 : decode cX5_area 19 = .ok (.getfield 10, 3) := by decide +kernel
theorem dX5_area_22 : decode cX5_area 22 = .ok (.invokevirtual 156, 3) := by decide +kernel
theorem dX5_area_25 : decode cX5_area 25 = .ok (.ifCond .ne 10, 3) := by decide +kernel
theorem dX5_area_28 : decode cX5_area 28 = .ok (.aload_n 0, 1) := by decide +kernel
theorem dX5_area_29 : decode cX5_area 29 = .ok (.bipush (-3), 2) := by decide +kernel
theorem dX5_area_31 : decode cX5_area 31 = .ok (.invokevirtual 116, 3) := by decide +kernel
theorem dX5_area_34 : decode cX5_area 34 = .ok (.lreturn, 1) := by decide +kernel
theorem dX5_area_35 : decode cX5_area 35 = .ok (.aload_n 0, 1) := by decide +kernel
theorem dX5_area_36 : decode cX5_area 36 = .ok (.getfield 36, 3) := by decide +kernel
theorem dX5_area_39 : decode cX5_area 39 = .ok (.invokevirtual 179, 3) := by decide +kernel
theorem dX5_area_42 : decode cX5_area 42 = .ok (.aload_n 0, 1) := by decide +kernel
theorem dX5_area_43 : decode cX5_area 43 = .ok (.getfield 36, 3) := by decide +kernel
theorem dX5_area_46 : decode cX5_area 46 = .ok (.invokevirtual 183, 3) := by decide +kernel
theorem dX5_area_49 : decode cX5_area 49 = .ok (.iload_n 1, 1) := by decide +kernel
theorem dX5_area_50 : decode cX5_area 50 = .ok (.invokestatic 171, 3) := by decide +kernel
theorem dX5_area_53 : decode cX5_area 53 = .ok (.lreturn, 1) := by decide +kernel
theorem dX5_turn_0 : decode cX5_turn 0 = .ok (.aload_n 0, 1) := by decide +kernel
theorem dX5_turn_1 : decode cX5_turn 1 = .ok (.getfield 10, 3) := by decide +kernel
theorem dX5_turn_4 : decode cX5_turn 4 = .ok (.iload_n 1, 1) := by decide +kernel
theorem dX5_turn_5 : decode cX5_turn 5 = .ok (.invokevirtual 105, 3) := by decide +kernel
theorem dX5_turn_8 : decode cX5_turn 8 = .ok (.ifCond .ne 9, 3) := by decide +kernel
theorem dX5_turn_11 : decode cX5_turn 11 = .ok (.aload_n 0, 1) := by decide +kernel
theorem dX5_turn_12 : decode cX5_turn 12 = .ok (.iconst (-1), 1) := by decide +kernel
theorem dX5_turn_13 : decode cX5_turn 13 = .ok (.invokevirtual 71, 3) := by decide +kernel
theorem dX5_turn_16 : decode cX5_turn 16 = .ok (.ireturn, 1) := by decide +kernel
theorem dX5_turn_17 : decode cX5_turn 17 = .ok (.aload_n 0, 1) := by decide +kernel
theorem dX5_turn_18 : decode cX5_turn 18 = .ok (.getfield 36, 3) := by decide +kernel
theorem dX5_turn_21 : decode cX5_turn 21 = .ok (.aload_n 0, 1) := by decide +kernel
theorem dX5_turn_22 : decode cX5_turn 22 = .ok (.getfield 10, 3) := by decide +kernel
theorem dX5_turn_25 : decode cX5_turn 25 = .ok (.invokevirtual 156, 3) := by decide +kernel
theorem dX5_turn_28 : decode cX5_turn 28 = .ok (.ifCond .ne 10, 3) := by decide +kernel
theorem dX5_turn_31 : decode cX5_turn 31 = .ok (.aload_n 0, 1) := by decide +kernel
theorem dX5_turn_32 : decode cX5_turn 32 = .ok (.bipush (-3), 2) := by decide +kernel
theorem dX5_turn_34 : decode cX5_turn 34 = .ok (.invokevirtual 71, 3) := by decide +kernel
theorem dX5_turn_37 : decode cX5_turn 37 = .ok (.ireturn, 1) := by decide +kernel
theorem dX5_turn_38 : decode cX5_turn 38 = .ok (.aload_n 0, 1) := by decide +kernel
theorem dX5_turn_39 : decode cX5_turn 39 = .ok (.getfield 36, 3) := by decide +kernel
theorem dX5_turn_42 : decode cX5_turn 42 = .ok (.iload_n 1, 1) := by decide +kernel
theorem dX5_turn_43 : decode cX5_turn 43 = .ok (.invokevirtual 186, 3) := by decide +kernel
theorem dX5_turn_46 : decode cX5_turn 46 = .ok (.ireturn, 1) := by decide +kernel
theorem dX5_cross_0 : decode cX5_cross 0 = .ok (.aload_n 0, 1) := by decide +kernel
theorem dX5_cross_1 : decode cX5_cross 1 = .ok (.getfield 10, 3) := by decide +kernel
theorem dX5_cross_4 : decode cX5_cross 4 = .ok (.iload_n 1, 1) := by decide +kernel
theorem dX5_cross_5 : decode cX5_cross 5 = .ok (.invokevirtual 105, 3) := by decide +kernel
theorem dX5_cross_8 : decode cX5_cross 8 = .ok (.ifCond .eq 19, 3) := by decide +kernel
theorem dX5_cross_11 : decode cX5_cross 11 = .ok (.aload_n 0, 1) := by decide +kernel
theorem dX5_cross_12 : decode cX5_cross 12 = .ok (.getfield 10, 3) := by decide +kernel
theorem dX5_cross_15 : decode cX5_cross 15 = .ok (.iload_n 2, 1) := by decide +kernel
theorem dX5_cross_16 : decode cX5_cross 16 = .ok (.invokevirtual 105, 3) := by decide +kernel
theorem dX5_cross_19 : decode cX5_cross 19 = .ok (.ifCond .eq 8, 3) := by decide +kernel
theorem dX5_cross_22 : decode cX5_cross 22 = .ok (.iload_n 1, 1) := by decide +kernel
theorem dX5_cross_23 : decode cX5_cross 23 = .ok (.iload_n 2, 1) := by decide +kernel
theorem dX5_cross_24 : decode cX5_cross 24 = .ok (.if_icmp .ne 9, 3) := by decide +kernel
theorem dX5_cross_27 : decode cX5_cross 27 = .ok (.aload_n 0, 1) := by decide +kernel
theorem dX5_cross_28 : decode cX5_cross 28 = .ok (.iconst (-1), 1) := by decide +kernel
theorem dX5_cross_29 : decode cX5_cross 29 = .ok (.invokevirtual 71, 3) := by decide +kernel
theorem dX5_cross_32 : decode cX5_cross 32 = .ok (.ireturn, 1) := by decide +kernel
theorem dX5_cross_33 : decode cX5_cross 33 = .ok (.aload_n 0, 1) := by decide +kernel
theorem dX5_cross_34 : decode cX5_cross 34 = .ok (.getfield 36, 3) := by decide +kernel
theorem dX5_cross_37 : decode cX5_cross 37 = .ok (.aload_n 0, 1) := by decide +kernel
theorem dX5_cross_38 : decode cX5_cross 38 = .ok (.getfield 10, 3) := by decide +kernel
theorem dX5_cross_41 : decode cX5_cross 41 = .ok (.invokevirtual 156, 3) := by decide +kernel
theorem dX5_cross_44 : decode cX5_cross 44 = .ok (.ifCond .eq 15, 3) := by decide +kernel
theorem dX5_cross_47 : decode cX5_cross 47 = .ok (.aload_n 0, 1) := by decide +kernel
theorem dX5_cross_48 : decode cX5_cross 48 = .ok (.getfield 36, 3) := by decide +kernel
theorem dX5_cross_51 : decode cX5_cross 51 = .ok (.iload_n 1, 1) := by decide +kernel
theorem dX5_cross_52 : decode cX5_cross 52 = .ok (.iload_n 2, 1) := by decide +kernel
theorem dX5_cross_53 : decode cX5_cross 53 = .ok (.invokevirtual 189, 3) := by decide +kernel
theorem dX5_cross_56 : decode cX5_cross 56 = .ok (.ifCond .eq 10, 3) := by decide +kernel
theorem dX5_cross_59 : decode cX5_cross 59 = .ok (.aload_n 0, 1) := by decide +kernel
theorem dX5_cross_60 : decode cX5_cross 60 = .ok (.bipush (-3), 2) := by decide +kernel
theorem dX5_cross_62 : decode cX5_cross 62 = .ok (.invokevirtual 71, 3) := by decide +kernel
theorem dX5_cross_65 : decode cX5_cross 65 = .ok (.ireturn, 1) := by decide +kernel
theorem dX5_cross_66 : decode cX5_cross 66 = .ok (.aload_n 0, 1) := by decide +kernel
theorem dX5_cross_67 : decode cX5_cross 67 = .ok (.getfield 36, 3) := by decide +kernel
theorem dX5_cross_70 : decode cX5_cross 70 = .ok (.iload_n 1, 1) := by decide +kernel
theorem dX5_cross_71 : decode cX5_cross 71 = .ok (.iload_n 2, 1) := by decide +kernel
theorem dX5_cross_72 : decode cX5_cross 72 = .ok (.invokevirtual 193, 3) := by decide +kernel
theorem dX5_cross_75 : decode cX5_cross 75 = .ok (.ifCond .eq 7, 3) := by decide +kernel
theorem dX5_cross_78 : decode cX5_cross 78 = .ok (.iconst 1, 1) := by decide +kernel
theorem dX5_cross_79 : decode cX5_cross 79 = .ok (.goto 4, 3) := by decide +kernel
theorem dX5_cross_82 : decode cX5_cross 82 = .ok (.iconst 0, 1) := by decide +kernel
theorem dX5_cross_83 : decode cX5_cross 83 = .ok (.ireturn, 1) := by decide +kernel
theorem dX5_crosses_0 : decode cX5_crosses 0 = .ok (.aload_n 0, 1) := by decide +kernel
theorem dX5_crosses_1 : decode cX5_crosses 1 = .ok (.getfield 36, 3) := by decide +kernel
theorem dX5_crosses_4 : decode cX5_crosses 4 = .ok (.aload_n 0, 1) := by decide +kernel
theorem dX5_crosses_5 : decode cX5_crosses 5 = .ok (.getfield 10, 3) := by decide +kernel
theorem dX5_crosses_8 : decode cX5_crosses 8 = .ok (.invokevirtual 156, 3) := by decide +kernel
theorem dX5_crosses_11 : decode cX5_crosses 11 = .ok (.ifCond .ne 10, 3) := by decide +kernel
theorem dX5_crosses_14 : decode cX5_crosses 14 = .ok (.aload_n 0, 1) := by decide +kernel
theorem dX5_crosses_15 : decode cX5_crosses 15 = .ok (.bipush (-3), 2) := by decide +kernel
theorem dX5_crosses_17 : decode cX5_crosses 17 = .ok (.invokevirtual 71, 3) := by decide +kernel
theorem dX5_crosses_20 : decode cX5_crosses 20 = .ok (.ireturn, 1) := by decide +kernel
theorem dX5_crosses_21 : decode cX5_crosses 21 = .ok (.aload_n 0, 1) := by decide +kernel
theorem dX5_crosses_22 : decode cX5_crosses 22 = .ok (.getfield 36, 3) := by decide +kernel
theorem dX5_crosses_25 : decode cX5_crosses 25 = .ok (.invokevirtual 196, 3) := by decide +kernel
theorem dX5_crosses_28 : decode cX5_crosses 28 = .ok (.ireturn, 1) := by decide +kernel
theorem dX5_outline_0 : decode cX5_outline 0 = .ok (.iload_n 1, 1) := by decide +kernel
theorem dX5_outline_1 : decode cX5_outline 1 = .ok (.invokestatic 144, 3) := by decide +kernel
theorem dX5_outline_4 : decode cX5_outline 4 = .ok (.ifCond .ne 10, 3) := by decide +kernel
theorem dX5_outline_7 : decode cX5_outline 7 = .ok (.aload_n 0, 1) := by decide +kernel
theorem dX5_outline_8 : decode cX5_outline 8 = .ok (.bipush (-2), 2) := by decide +kernel
theorem dX5_outline_10 : decode cX5_outline 10 = .ok (.invokevirtual 71, 3) := by decide +kernel
theorem dX5_outline_13 : decode cX5_outline 13 = .ok (.ireturn, 1) := by decide +kernel
theorem dX5_outline_14 : decode cX5_outline 14 = .ok (.aload_n 0, 1) := by decide +kernel
theorem dX5_outline_15 : decode cX5_outline 15 = .ok (.getfield 36, 3) := by decide +kernel
theorem dX5_outline_18 : decode cX5_outline 18 = .ok (.aload_n 0, 1) := by decide +kernel
theorem dX5_outline_19 : decode cX5_outline 19 = .ok (.getfield 10, 3) := by decide +kernel
theorem dX5_outline_22 : decode cX5_outline 22 = .ok (.invokevirtual 156, 3) := by decide +kernel
theorem dX5_outline_25 : decode cX5_outline 25 = .ok (.ifCond .ne 10, 3) := by decide +kernel
theorem dX5_outline_28 : decode cX5_outline 28 = .ok (.aload_n 0, 1) := by decide +kernel
theorem dX5_outline_29 : decode cX5_outline 29 = .ok (.bipush (-3), 2) := by decide +kernel
theorem dX5_outline_31 : decode cX5_outline 31 = .ok (.invokevirtual 71, 3) := by decide +kernel
theorem dX5_outline_34 : decode cX5_outline 34 = .ok (.ireturn, 1) := by decide +kernel
theorem dX5_outline_35 : decode cX5_outline 35 = .ok (.aload_n 0, 1) := by decide +kernel
theorem dX5_outline_36 : decode cX5_outline 36 = .ok (.getfield 36, 3) := by decide +kernel
theorem dX5_outline_39 : decode cX5_outline 39 = .ok (.invokevirtual 199, 3) := by decide +kernel
theorem dX5_outline_42 : decode cX5_outline 42 = .ok (.istore_n 2, 1) := by decide +kernel
theorem dX5_outline_43 : decode cX5_outline 43 = .ok (.iload_n 1, 1) := by decide +kernel
theorem dX5_outline_44 : decode cX5_outline 44 = .ok (.ifCond .ne 7, 3) := by decide +kernel
theorem dX5_outline_47 : decode cX5_outline 47 = .ok (.iload_n 2, 1) := by decide +kernel
theorem dX5_outline_48 : decode cX5_outline 48 = .ok (.goto 7, 3) := by decide +kernel
theorem dX5_outline_51 : decode cX5_outline 51 = .ok (.iload_n 2, 1) := by decide +kernel
theorem dX5_outline_52 : decode cX5_outline 52 = .ok (.invokestatic 202, 3) := by decide +kernel
theorem dX5_outline_55 : decode cX5_outline 55 = .ok (.ireturn, 1) := by decide +kernel
theorem dX5_hull_0 : decode cX5_hull 0 = .ok (.iload_n 1, 1) := by decide +kernel
theorem dX5_hull_1 : decode cX5_hull 1 = .ok (.invokestatic 144, 3) := by decide +kernel
theorem dX5_hull_4 : decode cX5_hull 4 = .ok (.ifCond .ne 10, 3) := by decide +kernel
theorem dX5_hull_7 : decode cX5_hull 7 = .ok (.aload_n 0, 1) := by decide +kernel
theorem dX5_hull_8 : decode cX5_hull 8 = .ok (.bipush (-2), 2) := by decide +kernel
theorem dX5_hull_10 : decode cX5_hull 10 = .ok (.invokevirtual 116, 3) := by decide +kernel
theorem dX5_hull_13 : decode cX5_hull 13 = .ok (.lreturn, 1) := by decide +kernel
theorem dX5_hull_14 : decode cX5_hull 14 = .ok (.aload_n 0, 1) := by decide +kernel
theorem dX5_hull_15 : decode cX5_hull 15 = .ok (.getfield 36, 3) := by decide +kernel
theorem dX5_hull_18 : decode cX5_hull 18 = .ok (.aload_n 0, 1) := by decide +kernel
theorem dX5_hull_19 : decode cX5_hull 19 = .ok (.getfield 10, 3) := by decide +kernel
theorem dX5_hull_22 : decode cX5_hull 22 = .ok (.invokevirtual 156, 3) := by decide +kernel
theorem dX5_hull_25 : decode cX5_hull 25 = .ok (.ifCond .ne 10, 3) := by decide +kernel
theorem dX5_hull_28 : decode cX5_hull 28 = .ok (.aload_n 0, 1) := by decide +kernel
theorem dX5_hull_29 : decode cX5_hull 29 = .ok (.bipush (-3), 2) := by decide +kernel
theorem dX5_hull_31 : decode cX5_hull 31 = .ok (.invokevirtual 116, 3) := by decide +kernel
theorem dX5_hull_34 : decode cX5_hull 34 = .ok (.lreturn, 1) := by decide +kernel
theorem dX5_hull_35 : decode cX5_hull 35 = .ok (.aload_n 0, 1) := by decide +kernel
theorem dX5_hull_36 : decode cX5_hull 36 = .ok (.getfield 36, 3) := by decide +kernel
theorem dX5_hull_39 : decode cX5_hull 39 = .ok (.invokevirtual 207, 3) := by decide +kernel
theorem dX5_hull_42 : decode cX5_hull 42 = .ok (.aload_n 0, 1) := by decide +kernel
theorem dX5_hull_43 : decode cX5_hull 43 = .ok (.getfield 36, 3) := by decide +kernel
theorem dX5_hull_46 : decode cX5_hull 46 = .ok (.invokevirtual 183, 3) := by decide +kernel
theorem dX5_hull_49 : decode cX5_hull 49 = .ok (.iload_n 1, 1) := by decide +kernel
theorem dX5_hull_50 : decode cX5_hull 50 = .ok (.invokestatic 171, 3) := by decide +kernel
theorem dX5_hull_53 : decode cX5_hull 53 = .ok (.lreturn, 1) := by decide +kernel
theorem dX5_lost_0 : decode cX5_lost 0 = .ok (.aload_n 0, 1) := by decide +kernel
theorem dX5_lost_1 : decode cX5_lost 1 = .ok (.getfield 10, 3) := by decide +kernel
theorem dX5_lost_4 : decode cX5_lost 4 = .ok (.iload_n 1, 1) := by decide +kernel
theorem dX5_lost_5 : decode cX5_lost 5 = .ok (.invokevirtual 105, 3) := by decide +kernel
theorem dX5_lost_8 : decode cX5_lost 8 = .ok (.ifCond .ne 9, 3) := by decide +kernel
theorem dX5_lost_11 : decode cX5_lost 11 = .ok (.aload_n 0, 1) := by decide +kernel
theorem dX5_lost_12 : decode cX5_lost 12 = .ok (.iconst (-1), 1) := by decide +kernel
theorem dX5_lost_13 : decode cX5_lost 13 = .ok (.invokevirtual 116, 3) := by decide +kernel
theorem dX5_lost_16 : decode cX5_lost 16 = .ok (.lreturn, 1) := by decide +kernel
theorem dX5_lost_17 : decode cX5_lost 17 = .ok (.iload_n 2, 1) := by decide +kernel
theorem dX5_lost_18 : decode cX5_lost 18 = .ok (.invokestatic 144, 3) := by decide +kernel
theorem dX5_lost_21 : decode cX5_lost 21 = .ok (.ifCond .ne 10, 3) := by decide +kernel
theorem dX5_lost_24 : decode cX5_lost 24 = .ok (.aload_n 0, 1) := by decide +kernel
theorem dX5_lost_25 : decode cX5_lost 25 = .ok (.bipush (-2), 2) := by decide +kernel
theorem dX5_lost_27 : decode cX5_lost 27 = .ok (.invokevirtual 116, 3) := by decide +kernel
theorem dX5_lost_30 : decode cX5_lost 30 = .ok (.lreturn, 1) := by decide +kernel
theorem dX5_lost_31 : decode cX5_lost 31 = .ok (.aload_n 0, 1) := by decide +kernel
theorem dX5_lost_32 : decode cX5_lost 32 = .ok (.getfield 10, 3) := by decide +kernel
theorem dX5_lost_35 : decode cX5_lost 35 = .ok (.iload_n 1, 1) := by decide +kernel
theorem dX5_lost_36 : decode cX5_lost 36 = .ok (.invokevirtual 210, 3) := by decide +kernel
theorem dX5_lost_39 : decode cX5_lost 39 = .ok (.istore_n 3, 1) := by decide +kernel
theorem dX5_lost_40 : decode cX5_lost 40 = .ok (.iload_n 2, 1) := by decide +kernel
theorem dX5_lost_41 : decode cX5_lost 41 = .ok (.ifCond .ne 16, 3) := by decide +kernel
theorem dX5_lost_44 : decode cX5_lost 44 = .ok (.aload_n 0, 1) := by decide +kernel
theorem dX5_lost_45 : decode cX5_lost 45 = .ok (.getfield 10, 3) := by decide +kernel
theorem dX5_lost_48 : decode cX5_lost 48 = .ok (.iload_n 3, 1) := by decide +kernel
theorem dX5_lost_49 : decode cX5_lost 49 = .ok (.invokevirtual 150, 3) := by decide +kernel
theorem dX5_lost_52 : decode cX5_lost 52 = .ok (.ineg, 1) := by decide +kernel
theorem dX5_lost_53 : decode cX5_lost 53 = .ok (.i2l, 1) := by decide +kernel
theorem dX5_lost_54 : decode cX5_lost 54 = .ok (.goto 13, 3) := by decide +kernel
theorem dX5_lost_57 : decode cX5_lost 57 = .ok (.aload_n 0, 1) := by decide +kernel
theorem dX5_lost_58 : decode cX5_lost 58 = .ok (.getfield 10, 3) := by decide +kernel
theorem dX5_lost_61 : decode cX5_lost 61 = .ok (.iload_n 3, 1) := by decide +kernel
theorem dX5_lost_62 : decode cX5_lost 62 = .ok (.invokevirtual 153, 3) := by decide +kernel
theorem dX5_lost_65 : decode cX5_lost 65 = .ok (.ineg, 1) := by decide +kernel
theorem dX5_lost_66 : decode cX5_lost 66 = .ok (.i2l, 1) := by decide +kernel
theorem dX5_lost_67 : decode cX5_lost 67 = .ok (.lreturn, 1) := by decide +kernel
theorem dX5_lengths_0 : decode cX5_lengths 0 = .ok (.aload_n 0, 1) := by decide +kernel
theorem dX5_lengths_1 : decode cX5_lengths 1 = .ok (.getfield 10, 3) := by decide +kernel
theorem dX5_lengths_4 : decode cX5_lengths 4 = .ok (.iload_n 1, 1) := by decide +kernel
theorem dX5_lengths_5 : decode cX5_lengths 5 = .ok (.invokevirtual 105, 3) := by decide +kernel
theorem dX5_lengths_8 : decode cX5_lengths 8 = .ok (.ifCond .eq 19, 3) := by decide +kernel
theorem dX5_lengths_11 : decode cX5_lengths 11 = .ok (.aload_n 0, 1) := by decide +kernel
theorem dX5_lengths_12 : decode cX5_lengths 12 = .ok (.getfield 10, 3) := by decide +kernel
theorem dX5_lengths_15 : decode cX5_lengths 15 = .ok (.iload_n 2, 1) := by decide +kernel
theorem dX5_lengths_16 : decode cX5_lengths 16 = .ok (.invokevirtual 105, 3) := by decide +kernel
theorem dX5_lengths_19 : decode cX5_lengths 19 = .ok (.ifCond .eq 8, 3) := by decide +kernel
theorem dX5_lengths_22 : decode cX5_lengths 22 = .ok (.iload_n 1, 1) := by decide +kernel
theorem dX5_lengths_23 : decode cX5_lengths 23 = .ok (.iload_n 2, 1) := by decide +kernel
theorem dX5_lengths_24 : decode cX5_lengths 24 = .ok (.if_icmp .ne 9, 3) := by decide +kernel
theorem dX5_lengths_27 : decode cX5_lengths 27 = .ok (.aload_n 0, 1) := by decide +kernel
theorem dX5_lengths_28 : decode cX5_lengths 28 = .ok (.iconst (-1), 1) := by decide +kernel
theorem dX5_lengths_29 : decode cX5_lengths 29 = .ok (.invokevirtual 116, 3) := by decide +kernel
theorem dX5_lengths_32 : decode cX5_lengths 32 = .ok (.lreturn, 1) := by decide +kernel
theorem dX5_lengths_33 : decode cX5_lengths 33 = .ok (.iload_n 3, 1) := by decide +kernel
theorem dX5_lengths_34 : decode cX5_lengths 34 = .ok (.invokestatic 144, 3) := by decide +kernel
theorem dX5_lengths_37 : decode cX5_lengths 37 = .ok (.ifCond .eq 11, 3) := by decide +kernel
theorem dX5_lengths_40 : decode cX5_lengths 40 = .ok (.iload 4, 2) := by decide +kernel
theorem dX5_lengths_42 : decode cX5_lengths 42 = .ok (.invokestatic 144, 3) := by decide +kernel
theorem dX5_lengths_45 : decode cX5_lengths 45 = .ok (.ifCond .ne 10, 3) := by decide +kernel
theorem dX5_lengths_48 : decode cX5_lengths 48 = .ok (.aload_n 0, 1) := by decide +kernel
theorem dX5_lengths_49 : decode cX5_lengths 49 = .ok (.bipush (-2), 2) := by decide +kernel
theorem dX5_lengths_51 : decode cX5_lengths 51 = .ok (.invokevirtual 116, 3) := by decide +kernel
theorem dX5_lengths_54 : decode cX5_lengths 54 = .ok (.lreturn, 1) := by decide +kernel
theorem dX5_lengths_55 : decode cX5_lengths 55 = .ok (.aload_n 0, 1) := by decide +kernel
theorem dX5_lengths_56 : decode cX5_lengths 56 = .ok (.getfield 10, 3) := by decide +kernel
theorem dX5_lengths_59 : decode cX5_lengths 59 = .ok (.iload_n 1, 1) := by decide +kernel
theorem dX5_lengths_60 : decode cX5_lengths 60 = .ok (.invokevirtual 213, 3) := by decide +kernel
theorem dX5_lengths_63 : decode cX5_lengths 63 = .ok (.i2l, 1) := by decide +kernel
theorem dX5_lengths_64 : decode cX5_lengths 64 = .ok (.lstore 5, 2) := by decide +kernel
theorem dX5_lengths_66 : decode cX5_lengths 66 = .ok (.aload_n 0, 1) := by decide +kernel
theorem dX5_lengths_67 : decode cX5_lengths 67 = .ok (.getfield 10, 3) := by decide +kernel
theorem dX5_lengths_70 : decode cX5_lengths 70 = .ok (.iload_n 1, 1) := by decide +kernel
theorem dX5_lengths_71 : decode cX5_lengths 71 = .ok (.invokevirtual 216, 3) := by decide +kernel
theorem dX5_lengths_74 : decode cX5_lengths 74 = .ok (.i2l, 1) := by decide +kernel
theorem dX5_lengths_75 : decode cX5_lengths 75 = .ok (.lstore 7, 2) := by decide +kernel
theorem dX5_lengths_77 : decode cX5_lengths 77 = .ok (.aload_n 0, 1) := by decide +kernel
theorem dX5_lengths_78 : decode cX5_lengths 78 = .ok (.getfield 10, 3) := by decide +kernel
theorem dX5_lengths_81 : decode cX5_lengths 81 = .ok (.iload_n 2, 1) := by decide +kernel
theorem dX5_lengths_82 : decode cX5_lengths 82 = .ok (.invokevirtual 213, 3) := by decide +kernel
theorem dX5_lengths_85 : decode cX5_lengths 85 = .ok (.i2l, 1) := by decide +kernel
theorem dX5_lengths_86 : decode cX5_lengths 86 = .ok (.lstore 9, 2) := by decide +kernel
theorem dX5_lengths_88 : decode cX5_lengths 88 = .ok (.aload_n 0, 1) := by decide +kernel
theorem dX5_lengths_89 : decode cX5_lengths 89 = .ok (.getfield 10, 3) := by decide +kernel
theorem dX5_lengths_92 : decode cX5_lengths 92 = .ok (.iload_n 2, 1) := by decide +kernel
theorem dX5_lengths_93 : decode cX5_lengths 93 = .ok (.invokevirtual 216, 3) := by decide +kernel
theorem dX5_lengths_96 : decode cX5_lengths 96 = .ok (.i2l, 1) := by decide +kernel
theorem dX5_lengths_97 : decode cX5_lengths 97 = .ok (.lstore 11, 2) := by decide +kernel
theorem dX5_lengths_99 : decode cX5_lengths 99 = .ok (.lload 5, 2) := by decide +kernel
theorem dX5_lengths_101 : decode cX5_lengths 101 = .ok (.lload 11, 2) := by decide +kernel
theorem dX5_lengths_103 : decode cX5_lengths 103 = .ok (.lmul, 1) := by decide +kernel
theorem dX5_lengths_104 : decode cX5_lengths 104 = .ok (.lload 7, 2) := by decide +kernel
theorem dX5_lengths_106 : decode cX5_lengths 106 = .ok (.lload 9, 2) := by decide +kernel
theorem dX5_lengths_108 : decode cX5_lengths 108 = .ok (.lmul, 1) := by decide +kernel
theorem dX5_lengths_109 : decode cX5_lengths 109 = .ok (.lsub, 1) := by decide +kernel
theorem dX5_lengths_110 : decode cX5_lengths 110 = .ok (.lstore 13, 2) := by decide +kernel
theorem dX5_lengths_112 : decode cX5_lengths 112 = .ok (.lload 13, 2) := by decide +kernel
theorem dX5_lengths_114 : decode cX5_lengths 114 = .ok (.lconst 0, 1) := by decide +kernel
theorem dX5_lengths_115 : decode cX5_lengths 115 = .ok (.lcmp, 1) := by decide +kernel
theorem dX5_lengths_116 : decode cX5_lengths 116 = .ok (.ifCond .ne 10, 3) := by decide +kernel
theorem dX5_lengths_119 : decode cX5_lengths 119 = .ok (.aload_n 0, 1) := by decide +kernel
theorem dX5_lengths_120 : decode cX5_lengths 120 = .ok (.bipush (-3), 2) := by decide +kernel
theorem dX5_lengths_122 : decode cX5_lengths 122 = .ok (.invokevirtual 116, 3) := by decide +kernel
theorem dX5_lengths_125 : decode cX5_lengths 125 = .ok (.lreturn, 1) := by decide +kernel
theorem dX5_lengths_126 : decode cX5_lengths 126 = .ok (.aload_n 0, 1) := by decide +kernel
theorem dX5_lengths_127 : decode cX5_lengths 127 = .ok (.getfield 10, 3) := by decide +kernel
theorem dX5_lengths_130 : decode cX5_lengths 130 = .ok (.iload_n 1, 1) := by decide +kernel
theorem dX5_lengths_131 : decode cX5_lengths 131 = .ok (.invokevirtual 210, 3) := by decide +kernel
theorem dX5_lengths_134 : decode cX5_lengths 134 = .ok (.aload_n 0, 1) := by decide +kernel
theorem dX5_lengths_135 : decode cX5_lengths 135 = .ok (.getfield 10, 3) := by decide +kernel
theorem dX5_lengths_138 : decode cX5_lengths 138 = .ok (.iload_n 2, 1) := by decide +kernel
theorem dX5_lengths_139 : decode cX5_lengths 139 = .ok (.invokevirtual 210, 3) := by decide +kernel
theorem dX5_lengths_142 : decode cX5_lengths 142 = .ok (.iand, 1) := by decide +kernel
theorem dX5_lengths_143 : decode cX5_lengths 143 = .ok (.istore 15, 2) := by decide +kernel
theorem dX5_lengths_145 : decode cX5_lengths 145 = .ok (.aload_n 0, 1) := by decide +kernel
theorem dX5_lengths_146 : decode cX5_lengths 146 = .ok (.getfield 10, 3) := by decide +kernel
theorem dX5_lengths_149 : decode cX5_lengths 149 = .ok (.iload 15, 2) := by decide +kernel
theorem dX5_lengths_151 : decode cX5_lengths 151 = .ok (.invokevirtual 150, 3) := by decide +kernel
theorem dX5_lengths_154 : decode cX5_lengths 154 = .ok (.ineg, 1) := by decide +kernel
theorem dX5_lengths_155 : decode cX5_lengths 155 = .ok (.i2l, 1) := by decide +kernel
theorem dX5_lengths_156 : decode cX5_lengths 156 = .ok (.lstore 16, 2) := by decide +kernel
theorem dX5_lengths_158 : decode cX5_lengths 158 = .ok (.aload_n 0, 1) := by decide +kernel
theorem dX5_lengths_159 : decode cX5_lengths 159 = .ok (.getfield 10, 3) := by decide +kernel
theorem dX5_lengths_162 : decode cX5_lengths 162 = .ok (.iload 15, 2) := by decide +kernel
theorem dX5_lengths_164 : decode cX5_lengths 164 = .ok (.invokevirtual 153, 3) := by decide +kernel
theorem dX5_lengths_167 : decode cX5_lengths 167 = .ok (.ineg, 1) := by decide +kernel
theorem dX5_lengths_168 : decode cX5_lengths 168 = .ok (.i2l, 1) := by decide +kernel
theorem dX5_lengths_169 : decode cX5_lengths 169 = .ok (.lstore 18, 2) := by decide +kernel
theorem dX5_lengths_171 : decode cX5_lengths 171 = .ok (.iload_n 3, 1) := by decide +kernel
theorem dX5_lengths_172 : decode cX5_lengths 172 = .ok (.ifCond .ne 17, 3) := by decide +kernel
theorem dX5_lengths_175 : decode cX5_lengths 175 = .ok (.lload 16, 2) := by decide +kernel
theorem dX5_lengths_177 : decode cX5_lengths 177 = .ok (.lload 11, 2) := by decide +kernel
theorem dX5_lengths_179 : decode cX5_lengths 179 = .ok (.lmul, 1) := by decide +kernel
theorem dX5_lengths_180 : decode cX5_lengths 180 = .ok (.lload 18, 2) := by decide +kernel
theorem dX5_lengths_182 : decode cX5_lengths 182 = .ok (.lload 9, 2) := by decide +kernel
theorem dX5_lengths_184 : decode cX5_lengths 184 = .ok (.lmul, 1) := by decide +kernel
theorem dX5_lengths_185 : decode cX5_lengths 185 = .ok (.lsub, 1) := by decide +kernel
theorem dX5_lengths_186 : decode cX5_lengths 186 = .ok (.goto 14, 3) := by decide +kernel
theorem dX5_lengths_189 : decode cX5_lengths 189 = .ok (.lload 5, 2) := by decide +kernel
theorem dX5_lengths_191 : decode cX5_lengths 191 = .ok (.lload 18, 2) := by decide +kernel
theorem dX5_lengths_193 : decode cX5_lengths 193 = .ok (.lmul, 1) := by decide +kernel
theorem dX5_lengths_194 : decode cX5_lengths 194 = .ok (.lload 7, 2) := by decide +kernel
theorem dX5_lengths_196 : decode cX5_lengths 196 = .ok (.lload 16, 2) := by decide +kernel
theorem dX5_lengths_198 : decode cX5_lengths 198 = .ok (.lmul, 1) := by decide +kernel
theorem dX5_lengths_199 : decode cX5_lengths 199 = .ok (.lsub, 1) := by decide +kernel
theorem dX5_lengths_200 : decode cX5_lengths 200 = .ok (.lstore 20, 2) := by decide +kernel
theorem dX5_lengths_202 : decode cX5_lengths 202 = .ok (.lload 20, 2) := by decide +kernel
theorem dX5_lengths_204 : decode cX5_lengths 204 = .ok (.lload 13, 2) := by decide +kernel
theorem dX5_lengths_206 : decode cX5_lengths 206 = .ok (.iload 4, 2) := by decide +kernel
theorem dX5_lengths_208 : decode cX5_lengths 208 = .ok (.invokestatic 171, 3) := by decide +kernel
theorem dX5_lengths_211 : decode cX5_lengths 211 = .ok (.lreturn, 1) := by decide +kernel
theorem dX5_worst_0 : decode cX5_worst 0 = .ok (.iload_n 1, 1) := by decide +kernel
theorem dX5_worst_1 : decode cX5_worst 1 = .ok (.invokestatic 144, 3) := by decide +kernel
theorem dX5_worst_4 : decode cX5_worst 4 = .ok (.ifCond .ne 10, 3) := by decide +kernel
theorem dX5_worst_7 : decode cX5_worst 7 = .ok (.aload_n 0, 1) := by decide +kernel
theorem dX5_worst_8 : decode cX5_worst 8 = .ok (.bipush (-2), 2) := by decide +kernel
theorem dX5_worst_10 : decode cX5_worst 10 = .ok (.invokevirtual 71, 3) := by decide +kernel
theorem dX5_worst_13 : decode cX5_worst 13 = .ok (.ireturn, 1) := by decide +kernel
theorem dX5_worst_14 : decode cX5_worst 14 = .ok (.aload_n 0, 1) := by decide +kernel
theorem dX5_worst_15 : decode cX5_worst 15 = .ok (.getfield 10, 3) := by decide +kernel
theorem dX5_worst_18 : decode cX5_worst 18 = .ok (.aload_n 0, 1) := by decide +kernel
theorem dX5_worst_19 : decode cX5_worst 19 = .ok (.getfield 10, 3) := by decide +kernel
theorem dX5_worst_22 : decode cX5_worst 22 = .ok (.invokevirtual 147, 3) := by decide +kernel
theorem dX5_worst_25 : decode cX5_worst 25 = .ok (.invokevirtual 219, 3) := by decide +kernel
theorem dX5_worst_28 : decode cX5_worst 28 = .ok (.istore_n 2, 1) := by decide +kernel
theorem dX5_worst_29 : decode cX5_worst 29 = .ok (.bipush (-9), 2) := by decide +kernel
theorem dX5_worst_31 : decode cX5_worst 31 = .ok (.istore_n 3, 1) := by decide +kernel
theorem dX5_worst_32 : decode cX5_worst 32 = .ok (.iconst 0, 1) := by decide +kernel
theorem dX5_worst_33 : decode cX5_worst 33 = .ok (.istore 4, 2) := by decide +kernel
theorem dX5_worst_35 : decode cX5_worst 35 = .ok (.iload 4, 2) := by decide +kernel
theorem dX5_worst_37 : decode cX5_worst 37 = .ok (.aload_n 0, 1) := by decide +kernel
theorem dX5_worst_38 : decode cX5_worst 38 = .ok (.getfield 10, 3) := by decide +kernel
theorem dX5_worst_41 : decode cX5_worst 41 = .ok (.getfield 90, 3) := by decide +kernel
theorem dX5_worst_44 : decode cX5_worst 44 = .ok (.if_icmp .ge 39, 3) := by decide +kernel
theorem dX5_worst_47 : decode cX5_worst 47 = .ok (.aload_n 0, 1) := by decide +kernel
theorem dX5_worst_48 : decode cX5_worst 48 = .ok (.getfield 10, 3) := by decide +kernel
theorem dX5_worst_51 : decode cX5_worst 51 = .ok (.aload_n 0, 1) := by decide +kernel
theorem dX5_worst_52 : decode cX5_worst 52 = .ok (.getfield 10, 3) := by decide +kernel
theorem dX5_worst_55 : decode cX5_worst 55 = .ok (.iload 4, 2) := by decide +kernel
theorem dX5_worst_57 : decode cX5_worst 57 = .ok (.invokevirtual 210, 3) := by decide +kernel
theorem dX5_worst_60 : decode cX5_worst 60 = .ok (.invokevirtual 219, 3) := by decide +kernel
theorem dX5_worst_63 : decode cX5_worst 63 = .ok (.istore 5, 2) := by decide +kernel
theorem dX5_worst_65 : decode cX5_worst 65 = .ok (.iload 5, 2) := by decide +kernel
theorem dX5_worst_67 : decode cX5_worst 67 = .ok (.iload_n 2, 1) := by decide +kernel
theorem dX5_worst_68 : decode cX5_worst 68 = .ok (.if_icmp .ge 9, 3) := by decide +kernel
theorem dX5_worst_71 : decode cX5_worst 71 = .ok (.iload 5, 2) := by decide +kernel
theorem dX5_worst_73 : decode cX5_worst 73 = .ok (.istore_n 2, 1) := by decide +kernel
theorem dX5_worst_74 : decode cX5_worst 74 = .ok (.iload 4, 2) := by decide +kernel
theorem dX5_worst_76 : decode cX5_worst 76 = .ok (.istore_n 3, 1) := by decide +kernel
theorem dX5_worst_77 : decode cX5_worst 77 = .ok (.iinc 4 1, 3) := by decide +kernel
theorem dX5_worst_80 : decode cX5_worst 80 = .ok (.goto (-45), 3) := by decide +kernel
theorem dX5_worst_83 : decode cX5_worst 83 = .ok (.iload_n 1, 1) := by decide +kernel
theorem dX5_worst_84 : decode cX5_worst 84 = .ok (.ifCond .eq 9, 3) := by decide +kernel
theorem dX5_worst_87 : decode cX5_worst 87 = .ok (.iload_n 3, 1) := by decide +kernel
theorem dX5_worst_88 : decode cX5_worst 88 = .ok (.bipush (-9), 2) := by decide +kernel
theorem dX5_worst_90 : decode cX5_worst 90 = .ok (.if_icmp .ne 7, 3) := by decide +kernel
theorem dX5_worst_93 : decode cX5_worst 93 = .ok (.iload_n 3, 1) := by decide +kernel
theorem dX5_worst_94 : decode cX5_worst 94 = .ok (.goto 4, 3) := by decide +kernel
theorem dX5_worst_97 : decode cX5_worst 97 = .ok (.iload_n 2, 1) := by decide +kernel
theorem dX5_worst_98 : decode cX5_worst 98 = .ok (.ireturn, 1) := by decide +kernel
theorem dX5_order_0 : decode cX5_order 0 = .ok (.iconst 0, 1) := by decide +kernel
theorem dX5_order_1 : decode cX5_order 1 = .ok (.istore_n 2, 1) := by decide +kernel
theorem dX5_order_2 : decode cX5_order 2 = .ok (.iload_n 2, 1) := by decide +kernel
theorem dX5_order_3 : decode cX5_order 3 = .ok (.aload_n 0, 1) := by decide +kernel
theorem dX5_order_4 : decode cX5_order 4 = .ok (.getfield 10, 3) := by decide +kernel
theorem dX5_order_7 : decode cX5_order 7 = .ok (.getfield 90, 3) := by decide +kernel
theorem dX5_order_10 : decode cX5_order 10 = .ok (.if_icmp .ge 23, 3) := by decide +kernel
theorem dX5_order_13 : decode cX5_order 13 = .ok (.aload_n 0, 1) := by decide +kernel
theorem dX5_order_14 : decode cX5_order 14 = .ok (.getfield 10, 3) := by decide +kernel
theorem dX5_order_17 : decode cX5_order 17 = .ok (.iload_n 2, 1) := by decide +kernel
theorem dX5_order_18 : decode cX5_order 18 = .ok (.invokevirtual 222, 3) := by decide +kernel
theorem dX5_order_21 : decode cX5_order 21 = .ok (.iload_n 1, 1) := by decide +kernel
theorem dX5_order_22 : decode cX5_order 22 = .ok (.if_icmp .ne 5, 3) := by decide +kernel
theorem dX5_order_25 : decode cX5_order 25 = .ok (.iload_n 2, 1) := by decide +kernel
theorem dX5_order_26 : decode cX5_order 26 = .ok (.ireturn, 1) := by decide +kernel
theorem dX5_order_27 : decode cX5_order 27 = .ok (.iinc 2 1, 3) := by decide +kernel
theorem dX5_order_30 : decode cX5_order 30 = .ok (.goto (-28), 3) := by decide +kernel
theorem dX5_order_33 : decode cX5_order 33 = .ok (.aload_n 0, 1) := by decide +kernel
theorem dX5_order_34 : decode cX5_order 34 = .ok (.iconst (-1), 1) := by decide +kernel
theorem dX5_order_35 : decode cX5_order 35 = .ok (.invokevirtual 71, 3) := by decide +kernel
theorem dX5_order_38 : decode cX5_order 38 = .ok (.ireturn, 1) := by decide +kernel
theorem dX5_likely_0 : decode cX5_likely 0 = .ok (.iload_n 1, 1) := by decide +kernel
theorem dX5_likely_1 : decode cX5_likely 1 = .ok (.iconst 2, 1) := by decide +kernel
theorem dX5_likely_2 : decode cX5_likely 2 = .ok (.if_icmp .lt 7, 3) := by decide +kernel
theorem dX5_likely_5 : decode cX5_likely 5 = .ok (.iload_n 2, 1) := by decide +kernel
theorem dX5_likely_6 : decode cX5_likely 6 = .ok (.ifCond .ge 10, 3) := by decide +kernel
theorem dX5_likely_9 : decode cX5_likely 9 = .ok (.aload_n 0, 1) := by decide +kernel
theorem dX5_likely_10 : decode cX5_likely 10 = .ok (.bipush (-4), 2) := by decide +kernel
theorem dX5_likely_12 : decode cX5_likely 12 = .ok (.invokevirtual 116, 3) := by decide +kernel
theorem dX5_likely_15 : decode cX5_likely 15 = .ok (.lreturn, 1) := by decide +kernel
theorem dX5_likely_16 : decode cX5_likely 16 = .ok (.iload_n 1, 1) := by decide +kernel
theorem dX5_likely_17 : decode cX5_likely 17 = .ok (.bipush 20, 2) := by decide +kernel
theorem dX5_likely_19 : decode cX5_likely 19 = .ok (.if_icmp .gt 10, 3) := by decide +kernel
theorem dX5_likely_22 : decode cX5_likely 22 = .ok (.iload_n 2, 1) := by decide +kernel
theorem dX5_likely_23 : decode cX5_likely 23 = .ok (.sipush 9999, 3) := by decide +kernel
theorem dX5_likely_26 : decode cX5_likely 26 = .ok (.if_icmp .le 10, 3) := by decide +kernel
theorem dX5_likely_29 : decode cX5_likely 29 = .ok (.aload_n 0, 1) := by decide +kernel
theorem dX5_likely_30 : decode cX5_likely 30 = .ok (.bipush (-6), 2) := by decide +kernel
theorem dX5_likely_32 : decode cX5_likely 32 = .ok (.invokevirtual 116, 3) := by decide +kernel
theorem dX5_likely_35 : decode cX5_likely 35 = .ok (.lreturn, 1) := by decide +kernel
theorem dX5_likely_36 : decode cX5_likely 36 = .ok (.iload_n 3, 1) := by decide +kernel
theorem dX5_likely_37 : decode cX5_likely 37 = .ok (.invokestatic 144, 3) := by decide +kernel
theorem dX5_likely_40 : decode cX5_likely 40 = .ok (.ifCond .ne 10, 3) := by decide +kernel
theorem dX5_likely_43 : decode cX5_likely 43 = .ok (.aload_n 0, 1) := by decide +kernel
theorem dX5_likely_44 : decode cX5_likely 44 = .ok (.bipush (-2), 2) := by decide +kernel
theorem dX5_likely_46 : decode cX5_likely 46 = .ok (.invokevirtual 116, 3) := by decide +kernel
theorem dX5_likely_49 : decode cX5_likely 49 = .ok (.lreturn, 1) := by decide +kernel
theorem dX5_likely_50 : decode cX5_likely 50 = .ok (.lconst 0, 1) := by decide +kernel
theorem dX5_likely_51 : decode cX5_likely 51 = .ok (.lstore 4, 2) := by decide +kernel
theorem dX5_likely_53 : decode cX5_likely 53 = .ok (.iconst 0, 1) := by decide +kernel
theorem dX5_likely_54 : decode cX5_likely 54 = .ok (.istore 6, 2) := by decide +kernel
theorem dX5_likely_56 : decode cX5_likely 56 = .ok (.iload 6, 2) := by decide +kernel
theorem dX5_likely_58 : decode cX5_likely 58 = .ok (.aload_n 0, 1) := by decide +kernel
theorem dX5_likely_59 : decode cX5_likely 59 = .ok (.getfield 10, 3) := by decide +kernel
theorem dX5_likely_62 : decode cX5_likely 62 = .ok (.invokevirtual 147, 3) := by decide +kernel
theorem dX5_likely_65 : decode cX5_likely 65 = .ok (.if_icmp .gt 39, 3) := by decide +kernel
theorem dX5_likely_68 : decode cX5_likely 68 = .ok (.aload_n 0, 1) := by decide +kernel
theorem dX5_likely_69 : decode cX5_likely 69 = .ok (.getfield 10, 3) := by decide +kernel
theorem dX5_likely_72 : decode cX5_likely 72 = .ok (.iload 6, 2) := by decide +kernel
theorem dX5_likely_74 : decode cX5_likely 74 = .ok (.invokevirtual 219, 3) := by decide +kernel
theorem dX5_likely_77 : decode cX5_likely 77 = .ok (.iload_n 2, 1) := by decide +kernel
theorem dX5_likely_78 : decode cX5_likely 78 = .ok (.if_icmp .gt 20, 3) := by decide +kernel
theorem dX5_likely_81 : decode cX5_likely 81 = .ok (.lload 4, 2) := by decide +kernel
theorem dX5_likely_83 : decode cX5_likely 83 = .ok (.iload_n 1, 1) := by decide +kernel
theorem dX5_likely_84 : decode cX5_likely 84 = .ok (.iconst 1, 1) := by decide +kernel
theorem dX5_likely_85 : decode cX5_likely 85 = .ok (.isub, 1) := by decide +kernel
theorem dX5_likely_86 : decode cX5_likely 86 = .ok (.i2l, 1) := by decide +kernel
theorem dX5_likely_87 : decode cX5_likely 87 = .ok (.iload 6, 2) := by decide +kernel
theorem dX5_likely_89 : decode cX5_likely 89 = .ok (.invokestatic 202, 3) := by decide +kernel
theorem dX5_likely_92 : decode cX5_likely 92 = .ok (.invokestatic 225, 3) := by decide +kernel
theorem dX5_likely_95 : decode cX5_likely 95 = .ok (.ladd, 1) := by decide +kernel
theorem dX5_likely_96 : decode cX5_likely 96 = .ok (.lstore 4, 2) := by decide +kernel
theorem dX5_likely_98 : decode cX5_likely 98 = .ok (.iinc 6 1, 3) := by decide +kernel
theorem dX5_likely_101 : decode cX5_likely 101 = .ok (.goto (-45), 3) := by decide +kernel
theorem dX5_likely_104 : decode cX5_likely 104 = .ok (.lload 4, 2) := by decide +kernel
theorem dX5_likely_106 : decode cX5_likely 106 = .ok (.iload_n 1, 1) := by decide +kernel
theorem dX5_likely_107 : decode cX5_likely 107 = .ok (.i2l, 1) := by decide +kernel
theorem dX5_likely_108 : decode cX5_likely 108 = .ok (.aload_n 0, 1) := by decide +kernel
theorem dX5_likely_109 : decode cX5_likely 109 = .ok (.getfield 10, 3) := by decide +kernel
theorem dX5_likely_112 : decode cX5_likely 112 = .ok (.getfield 90, 3) := by decide +kernel
theorem dX5_likely_115 : decode cX5_likely 115 = .ok (.invokestatic 225, 3) := by decide +kernel
theorem dX5_likely_118 : decode cX5_likely 118 = .ok (.iload_n 3, 1) := by decide +kernel
theorem dX5_likely_119 : decode cX5_likely 119 = .ok (.invokestatic 171, 3) := by decide +kernel
theorem dX5_likely_122 : decode cX5_likely 122 = .ok (.lreturn, 1) := by decide +kernel
theorem dX5_parcel_0 : decode cX5_parcel 0 = .ok (.aload_n 0, 1) := by decide +kernel
theorem dX5_parcel_1 : decode cX5_parcel 1 = .ok (.getfield 10, 3) := by decide +kernel
theorem dX5_parcel_4 : decode cX5_parcel 4 = .ok (.iload_n 1, 1) := by decide +kernel
theorem dX5_parcel_5 : decode cX5_parcel 5 = .ok (.invokevirtual 105, 3) := by decide +kernel
theorem dX5_parcel_8 : decode cX5_parcel 8 = .ok (.ifCond .ne 9, 3) := by decide +kernel
theorem dX5_parcel_11 : decode cX5_parcel 11 = .ok (.aload_n 0, 1) := by decide +kernel
theorem dX5_parcel_12 : decode cX5_parcel 12 = .ok (.iconst (-1), 1) := by decide +kernel
theorem dX5_parcel_13 : decode cX5_parcel 13 = .ok (.invokevirtual 116, 3) := by decide +kernel
theorem dX5_parcel_16 : decode cX5_parcel 16 = .ok (.lreturn, 1) := by decide +kernel
theorem dX5_parcel_17 : decode cX5_parcel 17 = .ok (.iload_n 2, 1) := by decide +kernel
theorem dX5_parcel_18 : decode cX5_parcel 18 = .ok (.ifCond .ge 10, 3) := by decide +kernel
theorem dX5_parcel_21 : decode cX5_parcel 21 = .ok (.aload_n 0, 1) := by decide +kernel
theorem dX5_parcel_22 : decode cX5_parcel 22 = .ok (.bipush (-4), 2) := by decide +kernel
theorem dX5_parcel_24 : decode cX5_parcel 24 = .ok (.invokevirtual 116, 3) := by decide +kernel
theorem dX5_parcel_27 : decode cX5_parcel 27 = .ok (.lreturn, 1) := by decide +kernel
theorem dX5_parcel_28 : decode cX5_parcel 28 = .ok (.iload_n 2, 1) := by decide +kernel
theorem dX5_parcel_29 : decode cX5_parcel 29 = .ok (.aload_n 0, 1) := by decide +kernel
theorem dX5_parcel_30 : decode cX5_parcel 30 = .ok (.getfield 10, 3) := by decide +kernel
theorem dX5_parcel_33 : decode cX5_parcel 33 = .ok (.getfield 90, 3) := by decide +kernel
theorem dX5_parcel_36 : decode cX5_parcel 36 = .ok (.iconst 2, 1) := by decide +kernel
theorem dX5_parcel_37 : decode cX5_parcel 37 = .ok (.isub, 1) := by decide +kernel
theorem dX5_parcel_38 : decode cX5_parcel 38 = .ok (.if_icmp .le 10, 3) := by decide +kernel
theorem dX5_parcel_41 : decode cX5_parcel 41 = .ok (.aload_n 0, 1) := by decide +kernel
theorem dX5_parcel_42 : decode cX5_parcel 42 = .ok (.bipush (-6), 2) := by decide +kernel
theorem dX5_parcel_44 : decode cX5_parcel 44 = .ok (.invokevirtual 116, 3) := by decide +kernel
theorem dX5_parcel_47 : decode cX5_parcel 47 = .ok (.lreturn, 1) := by decide +kernel
theorem dX5_parcel_48 : decode cX5_parcel 48 = .ok (.iload_n 3, 1) := by decide +kernel
theorem dX5_parcel_49 : decode cX5_parcel 49 = .ok (.invokestatic 144, 3) := by decide +kernel
theorem dX5_parcel_52 : decode cX5_parcel 52 = .ok (.ifCond .ne 10, 3) := by decide +kernel
theorem dX5_parcel_55 : decode cX5_parcel 55 = .ok (.aload_n 0, 1) := by decide +kernel
theorem dX5_parcel_56 : decode cX5_parcel 56 = .ok (.bipush (-2), 2) := by decide +kernel
theorem dX5_parcel_58 : decode cX5_parcel 58 = .ok (.invokevirtual 116, 3) := by decide +kernel
theorem dX5_parcel_61 : decode cX5_parcel 61 = .ok (.lreturn, 1) := by decide +kernel
theorem dX5_parcel_62 : decode cX5_parcel 62 = .ok (.aload_n 0, 1) := by decide +kernel
theorem dX5_parcel_63 : decode cX5_parcel 63 = .ok (.getfield 36, 3) := by decide +kernel
theorem dX5_parcel_66 : decode cX5_parcel 66 = .ok (.aload_n 0, 1) := by decide +kernel
theorem dX5_parcel_67 : decode cX5_parcel 67 = .ok (.getfield 10, 3) := by decide +kernel
theorem dX5_parcel_70 : decode cX5_parcel 70 = .ok (.invokevirtual 156, 3) := by decide +kernel
theorem dX5_parcel_73 : decode cX5_parcel 73 = .ok (.ifCond .ne 10, 3) := by decide +kernel
theorem dX5_parcel_76 : decode cX5_parcel 76 = .ok (.aload_n 0, 1) := by decide +kernel
theorem dX5_parcel_77 : decode cX5_parcel 77 = .ok (.bipush (-3), 2) := by decide +kernel
theorem dX5_parcel_79 : decode cX5_parcel 79 = .ok (.invokevirtual 116, 3) := by decide +kernel
theorem dX5_parcel_82 : decode cX5_parcel 82 = .ok (.lreturn, 1) := by decide +kernel
theorem dX5_parcel_83 : decode cX5_parcel 83 = .ok (.aload_n 0, 1) := by decide +kernel
theorem dX5_parcel_84 : decode cX5_parcel 84 = .ok (.getfield 36, 3) := by decide +kernel
theorem dX5_parcel_87 : decode cX5_parcel 87 = .ok (.iload_n 1, 1) := by decide +kernel
theorem dX5_parcel_88 : decode cX5_parcel 88 = .ok (.iload_n 2, 1) := by decide +kernel
theorem dX5_parcel_89 : decode cX5_parcel 89 = .ok (.invokevirtual 229, 3) := by decide +kernel
theorem dX5_parcel_92 : decode cX5_parcel 92 = .ok (.aload_n 0, 1) := by decide +kernel
theorem dX5_parcel_93 : decode cX5_parcel 93 = .ok (.getfield 36, 3) := by decide +kernel
theorem dX5_parcel_96 : decode cX5_parcel 96 = .ok (.invokevirtual 183, 3) := by decide +kernel
theorem dX5_parcel_99 : decode cX5_parcel 99 = .ok (.iload_n 3, 1) := by decide +kernel
theorem dX5_parcel_100 : decode cX5_parcel 100 = .ok (.invokestatic 171, 3) := by decide +kernel
theorem dX5_parcel_103 : decode cX5_parcel 103 = .ok (.lreturn, 1) := by decide +kernel
theorem dX5_cut_0 : decode cX5_cut 0 = .ok (.aload_n 0, 1) := by decide +kernel
theorem dX5_cut_1 : decode cX5_cut 1 = .ok (.getfield 10, 3) := by decide +kernel
theorem dX5_cut_4 : decode cX5_cut 4 = .ok (.iload_n 1, 1) := by decide +kernel
theorem dX5_cut_5 : decode cX5_cut 5 = .ok (.invokevirtual 105, 3) := by decide +kernel
theorem dX5_cut_8 : decode cX5_cut 8 = .ok (.ifCond .ne 9, 3) := by decide +kernel
theorem dX5_cut_11 : decode cX5_cut 11 = .ok (.aload_n 0, 1) := by decide +kernel
theorem dX5_cut_12 : decode cX5_cut 12 = .ok (.iconst (-1), 1) := by decide +kernel
theorem dX5_cut_13 : decode cX5_cut 13 = .ok (.invokevirtual 116, 3) := by decide +kernel
theorem dX5_cut_16 : decode cX5_cut 16 = .ok (.lreturn, 1) := by decide +kernel
theorem dX5_cut_17 : decode cX5_cut 17 = .ok (.iload_n 2, 1) := by decide +kernel
theorem dX5_cut_18 : decode cX5_cut 18 = .ok (.sipush (-9999), 3) := by decide +kernel
theorem dX5_cut_21 : decode cX5_cut 21 = .ok (.if_icmp .ge 10, 3) := by decide +kernel
theorem dX5_cut_24 : decode cX5_cut 24 = .ok (.aload_n 0, 1) := by decide +kernel
theorem dX5_cut_25 : decode cX5_cut 25 = .ok (.bipush (-4), 2) := by decide +kernel
theorem dX5_cut_27 : decode cX5_cut 27 = .ok (.invokevirtual 116, 3) := by decide +kernel
theorem dX5_cut_30 : decode cX5_cut 30 = .ok (.lreturn, 1) := by decide +kernel
theorem dX5_cut_31 : decode cX5_cut 31 = .ok (.iload_n 2, 1) := by decide +kernel
theorem dX5_cut_32 : decode cX5_cut 32 = .ok (.sipush 9999, 3) := by decide +kernel
theorem dX5_cut_35 : decode cX5_cut 35 = .ok (.if_icmp .le 10, 3) := by decide +kernel
theorem dX5_cut_38 : decode cX5_cut 38 = .ok (.aload_n 0, 1) := by decide +kernel
theorem dX5_cut_39 : decode cX5_cut 39 = .ok (.bipush (-6), 2) := by decide +kernel
theorem dX5_cut_41 : decode cX5_cut 41 = .ok (.invokevirtual 116, 3) := by decide +kernel
theorem dX5_cut_44 : decode cX5_cut 44 = .ok (.lreturn, 1) := by decide +kernel
theorem dX5_cut_45 : decode cX5_cut 45 = .ok (.iload_n 3, 1) := by decide +kernel
theorem dX5_cut_46 : decode cX5_cut 46 = .ok (.ifCond .lt 8, 3) := by decide +kernel
theorem dX5_cut_49 : decode cX5_cut 49 = .ok (.iload_n 3, 1) := by decide +kernel
theorem dX5_cut_50 : decode cX5_cut 50 = .ok (.iconst 2, 1) := by decide +kernel
theorem dX5_cut_51 : decode cX5_cut 51 = .ok (.if_icmp .le 10, 3) := by decide +kernel
theorem dX5_cut_54 : decode cX5_cut 54 = .ok (.aload_n 0, 1) := by decide +kernel
theorem dX5_cut_55 : decode cX5_cut 55 = .ok (.bipush (-2), 2) := by decide +kernel
theorem dX5_cut_57 : decode cX5_cut 57 = .ok (.invokevirtual 116, 3) := by decide +kernel
theorem dX5_cut_60 : decode cX5_cut 60 = .ok (.lreturn, 1) := by decide +kernel
theorem dX5_cut_61 : decode cX5_cut 61 = .ok (.aload_n 0, 1) := by decide +kernel
theorem dX5_cut_62 : decode cX5_cut 62 = .ok (.getfield 36, 3) := by decide +kernel
theorem dX5_cut_65 : decode cX5_cut 65 = .ok (.aload_n 0, 1) := by decide +kernel
theorem dX5_cut_66 : decode cX5_cut 66 = .ok (.getfield 10, 3) := by decide +kernel
theorem dX5_cut_69 : decode cX5_cut 69 = .ok (.invokevirtual 156, 3) := by decide +kernel
theorem dX5_cut_72 : decode cX5_cut 72 = .ok (.ifCond .ne 10, 3) := by decide +kernel
theorem dX5_cut_75 : decode cX5_cut 75 = .ok (.aload_n 0, 1) := by decide +kernel
theorem dX5_cut_76 : decode cX5_cut 76 = .ok (.bipush (-3), 2) := by decide +kernel
theorem dX5_cut_78 : decode cX5_cut 78 = .ok (.invokevirtual 116, 3) := by decide +kernel
theorem dX5_cut_81 : decode cX5_cut 81 = .ok (.lreturn, 1) := by decide +kernel
theorem dX5_cut_82 : decode cX5_cut 82 = .ok (.iload_n 2, 1) := by decide +kernel
theorem dX5_cut_83 : decode cX5_cut 83 = .ok (.i2l, 1) := by decide +kernel
theorem dX5_cut_84 : decode cX5_cut 84 = .ok (.ldc2_w 233, 3) := by decide +kernel
theorem dX5_cut_87 : decode cX5_cut 87 = .ok (.lmul, 1) := by decide +kernel
theorem dX5_cut_88 : decode cX5_cut 88 = .ok (.aload_n 0, 1) := by decide +kernel
theorem dX5_cut_89 : decode cX5_cut 89 = .ok (.getfield 36, 3) := by decide +kernel
theorem dX5_cut_92 : decode cX5_cut 92 = .ok (.invokevirtual 183, 3) := by decide +kernel
theorem dX5_cut_95 : decode cX5_cut 95 = .ok (.lmul, 1) := by decide +kernel
theorem dX5_cut_96 : decode cX5_cut 96 = .ok (.lstore 4, 2) := by decide +kernel
theorem dX5_cut_98 : decode cX5_cut 98 = .ok (.aload_n 0, 1) := by decide +kernel
theorem dX5_cut_99 : decode cX5_cut 99 = .ok (.getfield 36, 3) := by decide +kernel
theorem dX5_cut_102 : decode cX5_cut 102 = .ok (.iload_n 1, 1) := by decide +kernel
theorem dX5_cut_103 : decode cX5_cut 103 = .ok (.lload 4, 2) := by decide +kernel
theorem dX5_cut_105 : decode cX5_cut 105 = .ok (.invokevirtual 235, 3) := by decide +kernel
theorem dX5_cut_108 : decode cX5_cut 108 = .ok (.istore 6, 2) := by decide +kernel
theorem dX5_cut_110 : decode cX5_cut 110 = .ok (.iload 6, 2) := by decide +kernel
theorem dX5_cut_112 : decode cX5_cut 112 = .ok (.bipush (-9), 2) := by decide +kernel
theorem dX5_cut_114 : decode cX5_cut 114 = .ok (.if_icmp .eq 7, 3) := by decide +kernel
theorem dX5_cut_117 : decode cX5_cut 117 = .ok (.iload_n 3, 1) := by decide +kernel
theorem dX5_cut_118 : decode cX5_cut 118 = .ok (.ifCond .ne 7, 3) := by decide +kernel
theorem dX5_cut_121 : decode cX5_cut 121 = .ok (.iload 6, 2) := by decide +kernel
theorem dX5_cut_123 : decode cX5_cut 123 = .ok (.i2l, 1) := by decide +kernel
theorem dX5_cut_124 : decode cX5_cut 124 = .ok (.lreturn, 1) := by decide +kernel
theorem dX5_cut_125 : decode cX5_cut 125 = .ok (.aload_n 0, 1) := by decide +kernel
theorem dX5_cut_126 : decode cX5_cut 126 = .ok (.getfield 36, 3) := by decide +kernel
theorem dX5_cut_129 : decode cX5_cut 129 = .ok (.iload_n 1, 1) := by decide +kernel
theorem dX5_cut_130 : decode cX5_cut 130 = .ok (.iload 6, 2) := by decide +kernel
theorem dX5_cut_132 : decode cX5_cut 132 = .ok (.iconst 1, 1) := by decide +kernel
theorem dX5_cut_133 : decode cX5_cut 133 = .ok (.isub, 1) := by decide +kernel
theorem dX5_cut_134 : decode cX5_cut 134 = .ok (.invokevirtual 229, 3) := by decide +kernel
theorem dX5_cut_137 : decode cX5_cut 137 = .ok (.lstore 7, 2) := by decide +kernel
theorem dX5_cut_139 : decode cX5_cut 139 = .ok (.aload_n 0, 1) := by decide +kernel
theorem dX5_cut_140 : decode cX5_cut 140 = .ok (.getfield 36, 3) := by decide +kernel
theorem dX5_cut_143 : decode cX5_cut 143 = .ok (.iload_n 1, 1) := by decide +kernel
theorem dX5_cut_144 : decode cX5_cut 144 = .ok (.iload 6, 2) := by decide +kernel
theorem dX5_cut_146 : decode cX5_cut 146 = .ok (.invokevirtual 229, 3) := by decide +kernel
theorem dX5_cut_149 : decode cX5_cut 149 = .ok (.lstore 9, 2) := by decide +kernel
theorem dX5_cut_151 : decode cX5_cut 151 = .ok (.lload 4, 2) := by decide +kernel
theorem dX5_cut_153 : decode cX5_cut 153 = .ok (.lload 7, 2) := by decide +kernel
theorem dX5_cut_155 : decode cX5_cut 155 = .ok (.lsub, 1) := by decide +kernel
theorem dX5_cut_156 : decode cX5_cut 156 = .ok (.lload 9, 2) := by decide +kernel
theorem dX5_cut_158 : decode cX5_cut 158 = .ok (.lload 7, 2) := by decide +kernel
theorem dX5_cut_160 : decode cX5_cut 160 = .ok (.lsub, 1) := by decide +kernel
theorem dX5_cut_161 : decode cX5_cut 161 = .ok (.iload_n 3, 1) := by decide +kernel
theorem dX5_cut_162 : decode cX5_cut 162 = .ok (.iconst 1, 1) := by decide +kernel
theorem dX5_cut_163 : decode cX5_cut 163 = .ok (.isub, 1) := by decide +kernel
theorem dX5_cut_164 : decode cX5_cut 164 = .ok (.invokestatic 171, 3) := by decide +kernel
theorem dX5_cut_167 : decode cX5_cut 167 = .ok (.lreturn, 1) := by decide +kernel
theorem dX5_whatIs_0 : decode cX5_whatIs 0 = .ok (.aload_n 0, 1) := by decide +kernel
theorem dX5_whatIs_1 : decode cX5_whatIs 1 = .ok (.getfield 10, 3) := by decide +kernel
theorem dX5_whatIs_4 : decode cX5_whatIs 4 = .ok (.iload_n 1, 1) := by decide +kernel
theorem dX5_whatIs_5 : decode cX5_whatIs 5 = .ok (.invokevirtual 105, 3) := by decide +kernel
theorem dX5_whatIs_8 : decode cX5_whatIs 8 = .ok (.ifCond .ne 9, 3) := by decide +kernel
theorem dX5_whatIs_11 : decode cX5_whatIs 11 = .ok (.aload_n 0, 1) := by decide +kernel
theorem dX5_whatIs_12 : decode cX5_whatIs 12 = .ok (.iconst (-1), 1) := by decide +kernel
theorem dX5_whatIs_13 : decode cX5_whatIs 13 = .ok (.invokevirtual 71, 3) := by decide +kernel
theorem dX5_whatIs_16 : decode cX5_whatIs 16 = .ok (.ireturn, 1) := by decide +kernel
theorem dX5_whatIs_17 : decode cX5_whatIs 17 = .ok (.iload_n 2, 1) := by decide +kernel
theorem dX5_whatIs_18 : decode cX5_whatIs 18 = .ok (.invokestatic 144, 3) := by decide +kernel
theorem dX5_whatIs_21 : decode cX5_whatIs 21 = .ok (.ifCond .ne 10, 3) := by decide +kernel
theorem dX5_whatIs_24 : decode cX5_whatIs 24 = .ok (.aload_n 0, 1) := by decide +kernel
theorem dX5_whatIs_25 : decode cX5_whatIs 25 = .ok (.bipush (-2), 2) := by decide +kernel
theorem dX5_whatIs_27 : decode cX5_whatIs 27 = .ok (.invokevirtual 71, 3) := by decide +kernel
theorem dX5_whatIs_30 : decode cX5_whatIs 30 = .ok (.ireturn, 1) := by decide +kernel
theorem dX5_whatIs_31 : decode cX5_whatIs 31 = .ok (.iload_n 2, 1) := by decide +kernel
theorem dX5_whatIs_32 : decode cX5_whatIs 32 = .ok (.iconst 1, 1) := by decide +kernel
theorem dX5_whatIs_33 : decode cX5_whatIs 33 = .ok (.if_icmp .ne 28, 3) := by decide +kernel
theorem dX5_whatIs_36 : decode cX5_whatIs 36 = .ok (.aload_n 0, 1) := by decide +kernel
theorem dX5_whatIs_37 : decode cX5_whatIs 37 = .ok (.iload_n 1, 1) := by decide +kernel
theorem dX5_whatIs_38 : decode cX5_whatIs 38 = .ok (.aload_n 0, 1) := by decide +kernel
theorem dX5_whatIs_39 : decode cX5_whatIs 39 = .ok (.getfield 10, 3) := by decide +kernel
theorem dX5_whatIs_42 : decode cX5_whatIs 42 = .ok (.getfield 120, 3) := by decide +kernel
theorem dX5_whatIs_45 : decode cX5_whatIs 45 = .ok (.iload_n 1, 1) := by decide +kernel
theorem dX5_whatIs_46 : decode cX5_whatIs 46 = .ok (.iaload, 1) := by decide +kernel
theorem dX5_whatIs_47 : decode cX5_whatIs 47 = .ok (.invokevirtual 239, 3) := by decide +kernel
theorem dX5_whatIs_50 : decode cX5_whatIs 50 = .ok (.ifCond .eq 9, 3) := by decide +kernel
theorem dX5_whatIs_53 : decode cX5_whatIs 53 = .ok (.sipush 1023, 3) := by decide +kernel
theorem dX5_whatIs_56 : decode cX5_whatIs 56 = .ok (.goto 4, 3) := by decide +kernel
theorem dX5_whatIs_59 : decode cX5_whatIs 59 = .ok (.iconst 0, 1) := by decide +kernel
theorem dX5_whatIs_60 : decode cX5_whatIs 60 = .ok (.ireturn, 1) := by decide +kernel
theorem dX5_whatIs_61 : decode cX5_whatIs 61 = .ok (.iconst 0, 1) := by decide +kernel
theorem dX5_whatIs_62 : decode cX5_whatIs 62 = .ok (.istore_n 3, 1) := by decide +kernel
theorem dX5_whatIs_63 : decode cX5_whatIs 63 = .ok (.iconst 0, 1) := by decide +kernel
theorem dX5_whatIs_64 : decode cX5_whatIs 64 = .ok (.istore 4, 2) := by decide +kernel
theorem dX5_whatIs_66 : decode cX5_whatIs 66 = .ok (.iload 4, 2) := by decide +kernel
theorem dX5_whatIs_68 : decode cX5_whatIs 68 = .ok (.iconst 5, 1) := by decide +kernel
theorem dX5_whatIs_69 : decode cX5_whatIs 69 = .ok (.if_icmp .gt 26, 3) := by decide +kernel
theorem dX5_whatIs_72 : decode cX5_whatIs 72 = .ok (.aload_n 0, 1) := by decide +kernel
theorem dX5_whatIs_73 : decode cX5_whatIs 73 = .ok (.iload_n 1, 1) := by decide +kernel
theorem dX5_whatIs_74 : decode cX5_whatIs 74 = .ok (.iload 4, 2) := by decide +kernel
theorem dX5_whatIs_76 : decode cX5_whatIs 76 = .ok (.invokevirtual 239, 3) := by decide +kernel
theorem dX5_whatIs_79 : decode cX5_whatIs 79 = .ok (.ifCond .eq 10, 3) := by decide +kernel
theorem dX5_whatIs_82 : decode cX5_whatIs 82 = .ok (.iload_n 3, 1) := by decide +kernel
theorem dX5_whatIs_83 : decode cX5_whatIs 83 = .ok (.iconst 1, 1) := by decide +kernel
theorem dX5_whatIs_84 : decode cX5_whatIs 84 = .ok (.iload 4, 2) := by decide +kernel
theorem dX5_whatIs_86 : decode cX5_whatIs 86 = .ok (.ishl, 1) := by decide +kernel
theorem dX5_whatIs_87 : decode cX5_whatIs 87 = .ok (.ior, 1) := by decide +kernel
theorem dX5_whatIs_88 : decode cX5_whatIs 88 = .ok (.istore_n 3, 1) := by decide +kernel
theorem dX5_whatIs_89 : decode cX5_whatIs 89 = .ok (.iinc 4 1, 3) := by decide +kernel
theorem dX5_whatIs_92 : decode cX5_whatIs 92 = .ok (.goto (-26), 3) := by decide +kernel
theorem dX5_whatIs_95 : decode cX5_whatIs 95 = .ok (.iload_n 3, 1) := by decide +kernel
theorem dX5_whatIs_96 : decode cX5_whatIs 96 = .ok (.ireturn, 1) := by decide +kernel
theorem dX5_row_0 : decode cX5_row 0 = .ok (.iload_n 1, 1) := by decide +kernel
theorem dX5_row_1 : decode cX5_row 1 = .ok (.ifCond .ge 10, 3) := by decide +kernel
theorem dX5_row_4 : decode cX5_row 4 = .ok (.aload_n 0, 1) := by decide +kernel
theorem dX5_row_5 : decode cX5_row 5 = .ok (.bipush (-4), 2) := by decide +kernel
theorem dX5_row_7 : decode cX5_row 7 = .ok (.invokevirtual 71, 3) := by decide +kernel
theorem dX5_row_10 : decode cX5_row 10 = .ok (.ireturn, 1) := by decide +kernel
theorem dX5_row_11 : decode cX5_row 11 = .ok (.iload_n 1, 1) := by decide +kernel
theorem dX5_row_12 : decode cX5_row 12 = .ok (.bipush 99, 2) := by decide +kernel
theorem dX5_row_14 : decode cX5_row 14 = .ok (.if_icmp .gt 12, 3) := by decide +kernel
theorem dX5_row_17 : decode cX5_row 17 = .ok (.aload_n 0, 1) := by decide +kernel
theorem dX5_row_18 : decode cX5_row 18 = .ok (.getfield 58, 3) := by decide +kernel
theorem dX5_row_21 : decode cX5_row 21 = .ok (.bipush 9, 2) := by decide +kernel
theorem dX5_row_23 : decode cX5_row 23 = .ok (.if_icmp .lt 10, 3) := by decide +kernel
theorem dX5_row_26 : decode cX5_row 26 = .ok (.aload_n 0, 1) := by decide +kernel
theorem dX5_row_27 : decode cX5_row 27 = .ok (.bipush (-6), 2) := by decide +kernel
theorem dX5_row_29 : decode cX5_row 29 = .ok (.invokevirtual 71, 3) := by decide +kernel
theorem dX5_row_32 : decode cX5_row 32 = .ok (.ireturn, 1) := by decide +kernel
theorem dX5_row_33 : decode cX5_row 33 = .ok (.aload_n 0, 1) := by decide +kernel
theorem dX5_row_34 : decode cX5_row 34 = .ok (.getfield 55, 3) := by decide +kernel
theorem dX5_row_37 : decode cX5_row 37 = .ok (.aload_n 0, 1) := by decide +kernel
theorem dX5_row_38 : decode cX5_row 38 = .ok (.getfield 58, 3) := by decide +kernel
theorem dX5_row_41 : decode cX5_row 41 = .ok (.iload_n 1, 1) := by decide +kernel
theorem dX5_row_42 : decode cX5_row 42 = .ok (.iastore, 1) := by decide +kernel
theorem dX5_row_43 : decode cX5_row 43 = .ok (.aload_n 0, 1) := by decide +kernel
theorem dX5_row_44 : decode cX5_row 44 = .ok (.dup, 1) := by decide +kernel
theorem dX5_row_45 : decode cX5_row 45 = .ok (.getfield 58, 3) := by decide +kernel
theorem dX5_row_48 : decode cX5_row 48 = .ok (.iconst 1, 1) := by decide +kernel
theorem dX5_row_49 : decode cX5_row 49 = .ok (.iadd, 1) := by decide +kernel
theorem dX5_row_50 : decode cX5_row 50 = .ok (.putfield 58, 3) := by decide +kernel
theorem dX5_row_53 : decode cX5_row 53 = .ok (.aload_n 0, 1) := by decide +kernel
theorem dX5_row_54 : decode cX5_row 54 = .ok (.getfield 58, 3) := by decide +kernel
theorem dX5_row_57 : decode cX5_row 57 = .ok (.ireturn, 1) := by decide +kernel
theorem dX5_clear_0 : decode cX5_clear 0 = .ok (.aload_n 0, 1) := by decide +kernel
theorem dX5_clear_1 : decode cX5_clear 1 = .ok (.getfield 58, 3) := by decide +kernel
theorem dX5_clear_4 : decode cX5_clear 4 = .ok (.istore_n 1, 1) := by decide +kernel
theorem dX5_clear_5 : decode cX5_clear 5 = .ok (.aload_n 0, 1) := by decide +kernel
theorem dX5_clear_6 : decode cX5_clear 6 = .ok (.iconst 0, 1) := by decide +kernel
theorem dX5_clear_7 : decode cX5_clear 7 = .ok (.putfield 58, 3) := by decide +kernel
theorem dX5_clear_10 : decode cX5_clear 10 = .ok (.iload_n 1, 1) := by decide +kernel
theorem dX5_clear_11 : decode cX5_clear 11 = .ok (.ireturn, 1) := by decide +kernel
theorem dX5_lots_0 : decode cX5_lots 0 = .ok (.iload_n 1, 1) := by decide +kernel
theorem dX5_lots_1 : decode cX5_lots 1 = .ok (.iconst 1, 1) := by decide +kernel
theorem dX5_lots_2 : decode cX5_lots 2 = .ok (.if_icmp .ge 10, 3) := by decide +kernel
theorem dX5_lots_5 : decode cX5_lots 5 = .ok (.aload_n 0, 1) := by decide +kernel
theorem dX5_lots_6 : decode cX5_lots 6 = .ok (.bipush (-4), 2) := by decide +kernel
theorem dX5_lots_8 : decode cX5_lots 8 = .ok (.invokevirtual 71, 3) := by decide +kernel
theorem dX5_lots_11 : decode cX5_lots 11 = .ok (.ireturn, 1) := by decide +kernel
theorem dX5_lots_12 : decode cX5_lots 12 = .ok (.iload_n 1, 1) := by decide +kernel
theorem dX5_lots_13 : decode cX5_lots 13 = .ok (.bipush 20, 2) := by decide +kernel
theorem dX5_lots_15 : decode cX5_lots 15 = .ok (.if_icmp .le 10, 3) := by decide +kernel
theorem dX5_lots_18 : decode cX5_lots 18 = .ok (.aload_n 0, 1) := by decide +kernel
theorem dX5_lots_19 : decode cX5_lots 19 = .ok (.bipush (-6), 2) := by decide +kernel
theorem dX5_lots_21 : decode cX5_lots 21 = .ok (.invokevirtual 71, 3) := by decide +kernel
theorem dX5_lots_24 : decode cX5_lots 24 = .ok (.ireturn, 1) := by decide +kernel
theorem dX5_lots_25 : decode cX5_lots 25 = .ok (.iload_n 3, 1) := by decide +kernel
theorem dX5_lots_26 : decode cX5_lots 26 = .ok (.invokestatic 144, 3) := by decide +kernel
theorem dX5_lots_29 : decode cX5_lots 29 = .ok (.ifCond .ne 10, 3) := by decide +kernel
theorem dX5_lots_32 : decode cX5_lots 32 = .ok (.aload_n 0, 1) := by decide +kernel
theorem dX5_lots_33 : decode cX5_lots 33 = .ok (.bipush (-2), 2) := by decide +kernel
theorem dX5_lots_35 : decode cX5_lots 35 = .ok (.invokevirtual 71, 3) := by decide +kernel
theorem dX5_lots_38 : decode cX5_lots 38 = .ok (.ireturn, 1) := by decide +kernel
theorem dX5_lots_39 : decode cX5_lots 39 = .ok (.aload_n 0, 1) := by decide +kernel
theorem dX5_lots_40 : decode cX5_lots 40 = .ok (.getfield 16, 3) := by decide +kernel
theorem dX5_lots_43 : decode cX5_lots 43 = .ok (.aload_n 0, 1) := by decide +kernel
theorem dX5_lots_44 : decode cX5_lots 44 = .ok (.getfield 10, 3) := by decide +kernel
theorem dX5_lots_47 : decode cX5_lots 47 = .ok (.invokevirtual 75, 3) := by decide +kernel
theorem dX5_lots_50 : decode cX5_lots 50 = .ok (.iload_n 2, 1) := by decide +kernel
theorem dX5_lots_51 : decode cX5_lots 51 = .ok (.istore 4, 2) := by decide +kernel
theorem dX5_lots_53 : decode cX5_lots 53 = .ok (.iconst 0, 1) := by decide +kernel
theorem dX5_lots_54 : decode cX5_lots 54 = .ok (.istore 5, 2) := by decide +kernel
theorem dX5_lots_56 : decode cX5_lots 56 = .ok (.iconst 0, 1) := by decide +kernel
theorem dX5_lots_57 : decode cX5_lots 57 = .ok (.istore 6, 2) := by decide +kernel
theorem dX5_lots_59 : decode cX5_lots 59 = .ok (.iconst 0, 1) := by decide +kernel
theorem dX5_lots_60 : decode cX5_lots 60 = .ok (.istore 7, 2) := by decide +kernel
theorem dX5_lots_62 : decode cX5_lots 62 = .ok (.iload 7, 2) := by decide +kernel
theorem dX5_lots_64 : decode cX5_lots 64 = .ok (.iload_n 1, 1) := by decide +kernel
theorem dX5_lots_65 : decode cX5_lots 65 = .ok (.if_icmp .ge 66, 3) := by decide +kernel
theorem dX5_lots_68 : decode cX5_lots 68 = .ok (.aload_n 0, 1) := by decide +kernel
theorem dX5_lots_69 : decode cX5_lots 69 = .ok (.getfield 16, 3) := by decide +kernel
theorem dX5_lots_72 : decode cX5_lots 72 = .ok (.iload 4, 2) := by decide +kernel
theorem dX5_lots_74 : decode cX5_lots 74 = .ok (.invokevirtual 242, 3) := by decide +kernel
theorem dX5_lots_77 : decode cX5_lots 77 = .ok (.istore 4, 2) := by decide +kernel
theorem dX5_lots_79 : decode cX5_lots 79 = .ok (.iload 6, 2) := by decide +kernel
theorem dX5_lots_81 : decode cX5_lots 81 = .ok (.aload_n 0, 1) := by decide +kernel
theorem dX5_lots_82 : decode cX5_lots 82 = .ok (.getfield 16, 3) := by decide +kernel
theorem dX5_lots_85 : decode cX5_lots 85 = .ok (.aload_n 0, 1) := by decide +kernel
theorem dX5_lots_86 : decode cX5_lots 86 = .ok (.getfield 16, 3) := by decide +kernel
theorem dX5_lots_89 : decode cX5_lots 89 = .ok (.invokevirtual 147, 3) := by decide +kernel
theorem dX5_lots_92 : decode cX5_lots 92 = .ok (.invokevirtual 219, 3) := by decide +kernel
theorem dX5_lots_95 : decode cX5_lots 95 = .ok (.iadd, 1) := by decide +kernel
theorem dX5_lots_96 : decode cX5_lots 96 = .ok (.istore 6, 2) := by decide +kernel
theorem dX5_lots_98 : decode cX5_lots 98 = .ok (.aload_n 0, 1) := by decide +kernel
theorem dX5_lots_99 : decode cX5_lots 99 = .ok (.getfield 36, 3) := by decide +kernel
theorem dX5_lots_102 : decode cX5_lots 102 = .ok (.aload_n 0, 1) := by decide +kernel
theorem dX5_lots_103 : decode cX5_lots 103 = .ok (.getfield 16, 3) := by decide +kernel
theorem dX5_lots_106 : decode cX5_lots 106 = .ok (.invokevirtual 156, 3) := by decide +kernel
theorem dX5_lots_109 : decode cX5_lots 109 = .ok (.ifCond .eq 16, 3) := by decide +kernel
theorem dX5_lots_112 : decode cX5_lots 112 = .ok (.aload_n 0, 1) := by decide +kernel
theorem dX5_lots_113 : decode cX5_lots 113 = .ok (.getfield 36, 3) := by decide +kernel
theorem dX5_lots_116 : decode cX5_lots 116 = .ok (.invokevirtual 196, 3) := by decide +kernel
theorem dX5_lots_119 : decode cX5_lots 119 = .ok (.ifCond .ne 6, 3) := by decide +kernel
theorem dX5_lots_122 : decode cX5_lots 122 = .ok (.iinc 5 1, 3) := by decide +kernel
theorem dX5_lots_125 : decode cX5_lots 125 = .ok (.iinc 7 1, 3) := by decide +kernel
theorem dX5_lots_128 : decode cX5_lots 128 = .ok (.goto (-66), 3) := by decide +kernel
theorem dX5_lots_131 : decode cX5_lots 131 = .ok (.iload_n 3, 1) := by decide +kernel
theorem dX5_lots_132 : decode cX5_lots 132 = .ok (.ifCond .ne 8, 3) := by decide +kernel
theorem dX5_lots_135 : decode cX5_lots 135 = .ok (.iload 5, 2) := by decide +kernel
theorem dX5_lots_137 : decode cX5_lots 137 = .ok (.goto 5, 3) := by decide +kernel
theorem dX5_lots_140 : decode cX5_lots 140 = .ok (.iload 6, 2) := by decide +kernel
theorem dX5_lots_142 : decode cX5_lots 142 = .ok (.ireturn, 1) := by decide +kernel
theorem dX5_list_0 : decode cX5_list 0 = .ok (.iload_n 1, 1) := by decide +kernel
theorem dX5_list_1 : decode cX5_list 1 = .ok (.invokestatic 245, 3) := by decide +kernel
theorem dX5_list_4 : decode cX5_list 4 = .ok (.ifCond .ne 9, 3) := by decide +kernel
theorem dX5_list_7 : decode cX5_list 7 = .ok (.aload_n 0, 1) := by decide +kernel
theorem dX5_list_8 : decode cX5_list 8 = .ok (.iconst (-1), 1) := by decide +kernel
theorem dX5_list_9 : decode cX5_list 9 = .ok (.invokevirtual 71, 3) := by decide +kernel
theorem dX5_list_12 : decode cX5_list 12 = .ok (.ireturn, 1) := by decide +kernel
theorem dX5_list_13 : decode cX5_list 13 = .ok (.iload_n 2, 1) := by decide +kernel
theorem dX5_list_14 : decode cX5_list 14 = .ok (.invokestatic 144, 3) := by decide +kernel
theorem dX5_list_17 : decode cX5_list 17 = .ok (.ifCond .ne 10, 3) := by decide +kernel
theorem dX5_list_20 : decode cX5_list 20 = .ok (.aload_n 0, 1) := by decide +kernel
theorem dX5_list_21 : decode cX5_list 21 = .ok (.bipush (-2), 2) := by decide +kernel
theorem dX5_list_23 : decode cX5_list 23 = .ok (.invokevirtual 71, 3) := by decide +kernel
theorem dX5_list_26 : decode cX5_list 26 = .ok (.ireturn, 1) := by decide +kernel
theorem dX5_list_27 : decode cX5_list 27 = .ok (.iload_n 3, 1) := by decide +kernel
theorem dX5_list_28 : decode cX5_list 28 = .ok (.bipush 20, 2) := by decide +kernel
theorem dX5_list_30 : decode cX5_list 30 = .ok (.if_icmp .le 10, 3) := by decide +kernel
theorem dX5_list_33 : decode cX5_list 33 = .ok (.aload_n 0, 1) := by decide +kernel
theorem dX5_list_34 : decode cX5_list 34 = .ok (.bipush (-6), 2) := by decide +kernel
theorem dX5_list_36 : decode cX5_list 36 = .ok (.invokevirtual 71, 3) := by decide +kernel
theorem dX5_list_39 : decode cX5_list 39 = .ok (.ireturn, 1) := by decide +kernel
theorem dX5_list_40 : decode cX5_list 40 = .ok (.iload_n 3, 1) := by decide +kernel
theorem dX5_list_41 : decode cX5_list 41 = .ok (.ifCond .ge 6, 3) := by decide +kernel
theorem dX5_list_44 : decode cX5_list 44 = .ok (.bipush (-14), 2) := by decide +kernel
theorem dX5_list_46 : decode cX5_list 46 = .ok (.ireturn, 1) := by decide +kernel
theorem dX5_list_47 : decode cX5_list 47 = .ok (.aload_n 0, 1) := by decide +kernel
theorem dX5_list_48 : decode cX5_list 48 = .ok (.getfield 63, 3) := by decide +kernel
theorem dX5_list_51 : decode cX5_list 51 = .ok (.iload_n 1, 1) := by decide +kernel
theorem dX5_list_52 : decode cX5_list 52 = .ok (.aaload, 1) := by decide +kernel
theorem dX5_list_53 : decode cX5_list 53 = .ok (.iload_n 2, 1) := by decide +kernel
theorem dX5_list_54 : decode cX5_list 54 = .ok (.iconst 1, 1) := by decide +kernel
theorem dX5_list_55 : decode cX5_list 55 = .ok (.if_icmp .ne 7, 3) := by decide +kernel
theorem dX5_list_58 : decode cX5_list 58 = .ok (.iconst 1, 1) := by decide +kernel
theorem dX5_list_59 : decode cX5_list 59 = .ok (.goto 4, 3) := by decide +kernel
theorem dX5_list_62 : decode cX5_list 62 = .ok (.iconst 0, 1) := by decide +kernel
theorem dX5_list_63 : decode cX5_list 63 = .ok (.iload_n 3, 1) := by decide +kernel
theorem dX5_list_64 : decode cX5_list 64 = .ok (.invokevirtual 248, 3) := by decide +kernel
theorem dX5_list_67 : decode cX5_list 67 = .ok (.iconst 1, 1) := by decide +kernel
theorem dX5_list_68 : decode cX5_list 68 = .ok (.ireturn, 1) := by decide +kernel
theorem dX5_put_0 : decode cX5_put 0 = .ok (.iload_n 1, 1) := by decide +kernel
theorem dX5_put_1 : decode cX5_put 1 = .ok (.invokestatic 245, 3) := by decide +kernel
theorem dX5_put_4 : decode cX5_put 4 = .ok (.ifCond .ne 9, 3) := by decide +kernel
theorem dX5_put_7 : decode cX5_put 7 = .ok (.aload_n 0, 1) := by decide +kernel
theorem dX5_put_8 : decode cX5_put 8 = .ok (.iconst (-1), 1) := by decide +kernel
theorem dX5_put_9 : decode cX5_put 9 = .ok (.invokevirtual 71, 3) := by decide +kernel
theorem dX5_put_12 : decode cX5_put 12 = .ok (.ireturn, 1) := by decide +kernel
theorem dX5_put_13 : decode cX5_put 13 = .ok (.aload_n 0, 1) := by decide +kernel
theorem dX5_put_14 : decode cX5_put 14 = .ok (.getfield 63, 3) := by decide +kernel
theorem dX5_put_17 : decode cX5_put 17 = .ok (.iload_n 1, 1) := by decide +kernel
theorem dX5_put_18 : decode cX5_put 18 = .ok (.aaload, 1) := by decide +kernel
theorem dX5_put_19 : decode cX5_put 19 = .ok (.invokevirtual 251, 3) := by decide +kernel
theorem dX5_put_22 : decode cX5_put 22 = .ok (.ifCond .eq 6, 3) := by decide +kernel
theorem dX5_put_25 : decode cX5_put 25 = .ok (.bipush (-11), 2) := by decide +kernel
theorem dX5_put_27 : decode cX5_put 27 = .ok (.ireturn, 1) := by decide +kernel
theorem dX5_put_28 : decode cX5_put 28 = .ok (.aload_n 0, 1) := by decide +kernel
theorem dX5_put_29 : decode cX5_put 29 = .ok (.getfield 63, 3) := by decide +kernel
theorem dX5_put_32 : decode cX5_put 32 = .ok (.iload_n 1, 1) := by decide +kernel
theorem dX5_put_33 : decode cX5_put 33 = .ok (.aaload, 1) := by decide +kernel
theorem dX5_put_34 : decode cX5_put 34 = .ok (.iload_n 2, 1) := by decide +kernel
theorem dX5_put_35 : decode cX5_put 35 = .ok (.lload_n 3, 1) := by decide +kernel
theorem dX5_put_36 : decode cX5_put 36 = .ok (.invokevirtual 255, 3) := by decide +kernel
theorem dX5_put_39 : decode cX5_put 39 = .ok (.ifCond .eq 7, 3) := by decide +kernel
theorem dX5_put_42 : decode cX5_put 42 = .ok (.iconst 1, 1) := by decide +kernel
theorem dX5_put_43 : decode cX5_put 43 = .ok (.goto 5, 3) := by decide +kernel
theorem dX5_put_46 : decode cX5_put 46 = .ok (.bipush (-13), 2) := by decide +kernel
theorem dX5_put_48 : decode cX5_put 48 = .ok (.ireturn, 1) := by decide +kernel
theorem dX5_look_0 : decode cX5_look 0 = .ok (.iload_n 1, 1) := by decide +kernel
theorem dX5_look_1 : decode cX5_look 1 = .ok (.invokestatic 245, 3) := by decide +kernel
theorem dX5_look_4 : decode cX5_look 4 = .ok (.ifCond .ne 9, 3) := by decide +kernel
theorem dX5_look_7 : decode cX5_look 7 = .ok (.aload_n 0, 1) := by decide +kernel
theorem dX5_look_8 : decode cX5_look 8 = .ok (.iconst (-1), 1) := by decide +kernel
theorem dX5_look_9 : decode cX5_look 9 = .ok (.invokevirtual 116, 3) := by decide +kernel
theorem dX5_look_12 : decode cX5_look 12 = .ok (.lreturn, 1) := by decide +kernel
theorem dX5_look_13 : decode cX5_look 13 = .ok (.aload_n 0, 1) := by decide +kernel
theorem dX5_look_14 : decode cX5_look 14 = .ok (.getfield 63, 3) := by decide +kernel
theorem dX5_look_17 : decode cX5_look 17 = .ok (.iload_n 1, 1) := by decide +kernel
theorem dX5_look_18 : decode cX5_look 18 = .ok (.aaload, 1) := by decide +kernel
theorem dX5_look_19 : decode cX5_look 19 = .ok (.astore_n 3, 1) := by decide +kernel
theorem dX5_look_20 : decode cX5_look 20 = .ok (.aload_n 3, 1) := by decide +kernel
theorem dX5_look_21 : decode cX5_look 21 = .ok (.invokevirtual 251, 3) := by decide +kernel
theorem dX5_look_24 : decode cX5_look 24 = .ok (.ifCond .eq 7, 3) := by decide +kernel
theorem dX5_look_27 : decode cX5_look 27 = .ok (.ldc2_w 259, 3) := by decide +kernel
theorem dX5_look_30 : decode cX5_look 30 = .ok (.lreturn, 1) := by decide +kernel
theorem dX5_look_31 : decode cX5_look 31 = .ok (.aload_n 3, 1) := by decide +kernel
theorem dX5_look_32 : decode cX5_look 32 = .ok (.iload_n 2, 1) := by decide +kernel
theorem dX5_look_33 : decode cX5_look 33 = .ok (.invokevirtual 261, 3) := by decide +kernel
theorem dX5_look_36 : decode cX5_look 36 = .ok (.ifCond .ne 7, 3) := by decide +kernel
theorem dX5_look_39 : decode cX5_look 39 = .ok (.ldc2_w 262, 3) := by decide +kernel
theorem dX5_look_42 : decode cX5_look 42 = .ok (.lreturn, 1) := by decide +kernel
theorem dX5_look_43 : decode cX5_look 43 = .ok (.aload_n 3, 1) := by decide +kernel
theorem dX5_look_44 : decode cX5_look 44 = .ok (.getfield 264, 3) := by decide +kernel
theorem dX5_look_47 : decode cX5_look 47 = .ok (.iload_n 2, 1) := by decide +kernel
theorem dX5_look_48 : decode cX5_look 48 = .ok (.laload, 1) := by decide +kernel
theorem dX5_look_49 : decode cX5_look 49 = .ok (.lreturn, 1) := by decide +kernel
theorem dX5_copy_0 : decode cX5_copy 0 = .ok (.iload_n 1, 1) := by decide +kernel
theorem dX5_copy_1 : decode cX5_copy 1 = .ok (.invokestatic 245, 3) := by decide +kernel
theorem dX5_copy_4 : decode cX5_copy 4 = .ok (.ifCond .eq 10, 3) := by decide +kernel
theorem dX5_copy_7 : decode cX5_copy 7 = .ok (.iload_n 3, 1) := by decide +kernel
theorem dX5_copy_8 : decode cX5_copy 8 = .ok (.invokestatic 245, 3) := by decide +kernel
theorem dX5_copy_11 : decode cX5_copy 11 = .ok (.ifCond .ne 9, 3) := by decide +kernel
theorem dX5_copy_14 : decode cX5_copy 14 = .ok (.aload_n 0, 1) := by decide +kernel
theorem dX5_copy_15 : decode cX5_copy 15 = .ok (.iconst (-1), 1) := by decide +kernel
theorem dX5_copy_16 : decode cX5_copy 16 = .ok (.invokevirtual 71, 3) := by decide +kernel
theorem dX5_copy_19 : decode cX5_copy 19 = .ok (.ireturn, 1) := by decide +kernel
theorem dX5_copy_20 : decode cX5_copy 20 = .ok (.aload_n 0, 1) := by decide +kernel
theorem dX5_copy_21 : decode cX5_copy 21 = .ok (.getfield 63, 3) := by decide +kernel
theorem dX5_copy_24 : decode cX5_copy 24 = .ok (.iload_n 1, 1) := by decide +kernel
theorem dX5_copy_25 : decode cX5_copy 25 = .ok (.aaload, 1) := by decide +kernel
theorem dX5_copy_26 : decode cX5_copy 26 = .ok (.astore 6, 2) := by decide +kernel
theorem dX5_copy_28 : decode cX5_copy 28 = .ok (.aload_n 0, 1) := by decide +kernel
theorem dX5_copy_29 : decode cX5_copy 29 = .ok (.getfield 63, 3) := by decide +kernel
theorem dX5_copy_32 : decode cX5_copy 32 = .ok (.iload_n 3, 1) := by decide +kernel
theorem dX5_copy_33 : decode cX5_copy 33 = .ok (.aaload, 1) := by decide +kernel
theorem dX5_copy_34 : decode cX5_copy 34 = .ok (.astore 7, 2) := by decide +kernel
theorem dX5_copy_36 : decode cX5_copy 36 = .ok (.aload 6, 2) := by decide +kernel
theorem dX5_copy_38 : decode cX5_copy 38 = .ok (.invokevirtual 251, 3) := by decide +kernel
theorem dX5_copy_41 : decode cX5_copy 41 = .ok (.ifCond .ne 11, 3) := by decide +kernel
theorem dX5_copy_44 : decode cX5_copy 44 = .ok (.aload 7, 2) := by decide +kernel
theorem dX5_copy_46 : decode cX5_copy 46 = .ok (.invokevirtual 251, 3) := by decide +kernel
theorem dX5_copy_49 : decode cX5_copy 49 = .ok (.ifCond .eq 6, 3) := by decide +kernel
theorem dX5_copy_52 : decode cX5_copy 52 = .ok (.bipush (-11), 2) := by decide +kernel
theorem dX5_copy_54 : decode cX5_copy 54 = .ok (.ireturn, 1) := by decide +kernel
theorem dX5_copy_55 : decode cX5_copy 55 = .ok (.aload 6, 2) := by decide +kernel
theorem dX5_copy_57 : decode cX5_copy 57 = .ok (.getfield 267, 3) := by decide +kernel
theorem dX5_copy_60 : decode cX5_copy 60 = .ok (.aload 7, 2) := by decide +kernel
theorem dX5_copy_62 : decode cX5_copy 62 = .ok (.getfield 267, 3) := by decide +kernel
theorem dX5_copy_65 : decode cX5_copy 65 = .ok (.if_icmp .eq 6, 3) := by decide +kernel
theorem dX5_copy_68 : decode cX5_copy 68 = .ok (.bipush (-12), 2) := by decide +kernel
theorem dX5_copy_70 : decode cX5_copy 70 = .ok (.ireturn, 1) := by decide +kernel
theorem dX5_copy_71 : decode cX5_copy 71 = .ok (.aload 6, 2) := by decide +kernel
theorem dX5_copy_73 : decode cX5_copy 73 = .ok (.iload_n 2, 1) := by decide +kernel
theorem dX5_copy_74 : decode cX5_copy 74 = .ok (.iload 5, 2) := by decide +kernel
theorem dX5_copy_76 : decode cX5_copy 76 = .ok (.invokevirtual 270, 3) := by decide +kernel
theorem dX5_copy_79 : decode cX5_copy 79 = .ok (.ifCond .eq 15, 3) := by decide +kernel
theorem dX5_copy_82 : decode cX5_copy 82 = .ok (.aload 7, 2) := by decide +kernel
theorem dX5_copy_84 : decode cX5_copy 84 = .ok (.iload 4, 2) := by decide +kernel
theorem dX5_copy_86 : decode cX5_copy 86 = .ok (.iload 5, 2) := by decide +kernel
theorem dX5_copy_88 : decode cX5_copy 88 = .ok (.invokevirtual 270, 3) := by decide +kernel
theorem dX5_copy_91 : decode cX5_copy 91 = .ok (.ifCond .ne 6, 3) := by decide +kernel
theorem dX5_copy_94 : decode cX5_copy 94 = .ok (.bipush (-13), 2) := by decide +kernel
theorem dX5_copy_96 : decode cX5_copy 96 = .ok (.ireturn, 1) := by decide +kernel
theorem dX5_copy_97 : decode cX5_copy 97 = .ok (.aload 6, 2) := by decide +kernel
theorem dX5_copy_99 : decode cX5_copy 99 = .ok (.getfield 264, 3) := by decide +kernel
theorem dX5_copy_102 : decode cX5_copy 102 = .ok (.iload_n 2, 1) := by decide +kernel
theorem dX5_copy_103 : decode cX5_copy 103 = .ok (.aload 7, 2) := by decide +kernel
theorem dX5_copy_105 : decode cX5_copy 105 = .ok (.getfield 264, 3) := by decide +kernel
theorem dX5_copy_108 : decode cX5_copy 108 = .ok (.iload 4, 2) := by decide +kernel
theorem dX5_copy_110 : decode cX5_copy 110 = .ok (.iload 5, 2) := by decide +kernel
theorem dX5_copy_112 : decode cX5_copy 112 = .ok (.invokestatic 273, 3) := by decide +kernel
theorem dX5_copy_115 : decode cX5_copy 115 = .ok (.iload 5, 2) := by decide +kernel
theorem dX5_copy_117 : decode cX5_copy 117 = .ok (.ireturn, 1) := by decide +kernel
theorem dX5_lays_0 : decode cX5_lays 0 = .ok (.iload_n 1, 1) := by decide +kernel
theorem dX5_lays_1 : decode cX5_lays 1 = .ok (.invokestatic 245, 3) := by decide +kernel
theorem dX5_lays_4 : decode cX5_lays 4 = .ok (.ifCond .ne 9, 3) := by decide +kernel
theorem dX5_lays_7 : decode cX5_lays 7 = .ok (.aload_n 0, 1) := by decide +kernel
theorem dX5_lays_8 : decode cX5_lays 8 = .ok (.iconst (-1), 1) := by decide +kernel
theorem dX5_lays_9 : decode cX5_lays 9 = .ok (.invokevirtual 71, 3) := by decide +kernel
theorem dX5_lays_12 : decode cX5_lays 12 = .ok (.ireturn, 1) := by decide +kernel
theorem dX5_lays_13 : decode cX5_lays 13 = .ok (.aload_n 0, 1) := by decide +kernel
theorem dX5_lays_14 : decode cX5_lays 14 = .ok (.getfield 36, 3) := by decide +kernel
theorem dX5_lays_17 : decode cX5_lays 17 = .ok (.aload_n 0, 1) := by decide +kernel
theorem dX5_lays_18 : decode cX5_lays 18 = .ok (.getfield 10, 3) := by decide +kernel
theorem dX5_lays_21 : decode cX5_lays 21 = .ok (.invokevirtual 156, 3) := by decide +kernel
theorem dX5_lays_24 : decode cX5_lays 24 = .ok (.ifCond .ne 10, 3) := by decide +kernel
theorem dX5_lays_27 : decode cX5_lays 27 = .ok (.aload_n 0, 1) := by decide +kernel
theorem dX5_lays_28 : decode cX5_lays 28 = .ok (.bipush (-3), 2) := by decide +kernel
theorem dX5_lays_30 : decode cX5_lays 30 = .ok (.invokevirtual 71, 3) := by decide +kernel
theorem dX5_lays_33 : decode cX5_lays 33 = .ok (.ireturn, 1) := by decide +kernel
theorem dX5_lays_34 : decode cX5_lays 34 = .ok (.aload_n 0, 1) := by decide +kernel
theorem dX5_lays_35 : decode cX5_lays 35 = .ok (.getfield 63, 3) := by decide +kernel
theorem dX5_lays_38 : decode cX5_lays 38 = .ok (.iload_n 1, 1) := by decide +kernel
theorem dX5_lays_39 : decode cX5_lays 39 = .ok (.aaload, 1) := by decide +kernel
theorem dX5_lays_40 : decode cX5_lays 40 = .ok (.astore_n 3, 1) := by decide +kernel
theorem dX5_lays_41 : decode cX5_lays 41 = .ok (.aload_n 3, 1) := by decide +kernel
theorem dX5_lays_42 : decode cX5_lays 42 = .ok (.invokevirtual 251, 3) := by decide +kernel
theorem dX5_lays_45 : decode cX5_lays 45 = .ok (.ifCond .eq 6, 3) := by decide +kernel
theorem dX5_lays_48 : decode cX5_lays 48 = .ok (.bipush (-11), 2) := by decide +kernel
theorem dX5_lays_50 : decode cX5_lays 50 = .ok (.ireturn, 1) := by decide +kernel
theorem dX5_lays_51 : decode cX5_lays 51 = .ok (.aload_n 3, 1) := by decide +kernel
theorem dX5_lays_52 : decode cX5_lays 52 = .ok (.iload_n 2, 1) := by decide +kernel
theorem dX5_lays_53 : decode cX5_lays 53 = .ok (.invokevirtual 261, 3) := by decide +kernel
theorem dX5_lays_56 : decode cX5_lays 56 = .ok (.ifCond .ne 6, 3) := by decide +kernel
theorem dX5_lays_59 : decode cX5_lays 59 = .ok (.bipush (-13), 2) := by decide +kernel
theorem dX5_lays_61 : decode cX5_lays 61 = .ok (.ireturn, 1) := by decide +kernel
theorem dX5_lays_62 : decode cX5_lays 62 = .ok (.iconst 0, 1) := by decide +kernel
theorem dX5_lays_63 : decode cX5_lays 63 = .ok (.istore 4, 2) := by decide +kernel
theorem dX5_lays_65 : decode cX5_lays 65 = .ok (.iload 4, 2) := by decide +kernel
theorem dX5_lays_67 : decode cX5_lays 67 = .ok (.iconst 2, 1) := by decide +kernel
theorem dX5_lays_68 : decode cX5_lays 68 = .ok (.aload_n 0, 1) := by decide +kernel
theorem dX5_lays_69 : decode cX5_lays 69 = .ok (.getfield 36, 3) := by decide +kernel
theorem dX5_lays_72 : decode cX5_lays 72 = .ok (.getfield 279, 3) := by decide +kernel
theorem dX5_lays_75 : decode cX5_lays 75 = .ok (.imul, 1) := by decide +kernel
theorem dX5_lays_76 : decode cX5_lays 76 = .ok (.if_icmp .ge 32, 3) := by decide +kernel
theorem dX5_lays_79 : decode cX5_lays 79 = .ok (.aload_n 3, 1) := by decide +kernel
theorem dX5_lays_80 : decode cX5_lays 80 = .ok (.iload_n 2, 1) := by decide +kernel
theorem dX5_lays_81 : decode cX5_lays 81 = .ok (.iload 4, 2) := by decide +kernel
theorem dX5_lays_83 : decode cX5_lays 83 = .ok (.iadd, 1) := by decide +kernel
theorem dX5_lays_84 : decode cX5_lays 84 = .ok (.aload_n 0, 1) := by decide +kernel
theorem dX5_lays_85 : decode cX5_lays 85 = .ok (.getfield 36, 3) := by decide +kernel
theorem dX5_lays_88 : decode cX5_lays 88 = .ok (.iload 4, 2) := by decide +kernel
theorem dX5_lays_90 : decode cX5_lays 90 = .ok (.invokevirtual 280, 3) := by decide +kernel
theorem dX5_lays_93 : decode cX5_lays 93 = .ok (.invokevirtual 255, 3) := by decide +kernel
theorem dX5_lays_96 : decode cX5_lays 96 = .ok (.ifCond .ne 6, 3) := by decide +kernel
theorem dX5_lays_99 : decode cX5_lays 99 = .ok (.bipush (-13), 2) := by decide +kernel
theorem dX5_lays_101 : decode cX5_lays 101 = .ok (.ireturn, 1) := by decide +kernel
theorem dX5_lays_102 : decode cX5_lays 102 = .ok (.iinc 4 1, 3) := by decide +kernel
theorem dX5_lays_105 : decode cX5_lays 105 = .ok (.goto (-40), 3) := by decide +kernel
theorem dX5_lays_108 : decode cX5_lays 108 = .ok (.aload_n 0, 1) := by decide +kernel
theorem dX5_lays_109 : decode cX5_lays 109 = .ok (.getfield 36, 3) := by decide +kernel
theorem dX5_lays_112 : decode cX5_lays 112 = .ok (.getfield 279, 3) := by decide +kernel
theorem dX5_lays_115 : decode cX5_lays 115 = .ok (.ireturn, 1) := by decide +kernel
theorem dX5_judge_0 : decode cX5_judge 0 = .ok (.iload_n 1, 1) := by decide +kernel
theorem dX5_judge_1 : decode cX5_judge 1 = .ok (.invokestatic 245, 3) := by decide +kernel
theorem dX5_judge_4 : decode cX5_judge 4 = .ok (.ifCond .ne 9, 3) := by decide +kernel
theorem dX5_judge_7 : decode cX5_judge 7 = .ok (.aload_n 0, 1) := by decide +kernel
theorem dX5_judge_8 : decode cX5_judge 8 = .ok (.iconst (-1), 1) := by decide +kernel
theorem dX5_judge_9 : decode cX5_judge 9 = .ok (.invokevirtual 71, 3) := by decide +kernel
theorem dX5_judge_12 : decode cX5_judge 12 = .ok (.ireturn, 1) := by decide +kernel
theorem dX5_judge_13 : decode cX5_judge 13 = .ok (.aload_n 0, 1) := by decide +kernel
theorem dX5_judge_14 : decode cX5_judge 14 = .ok (.getfield 36, 3) := by decide +kernel
theorem dX5_judge_17 : decode cX5_judge 17 = .ok (.aload_n 0, 1) := by decide +kernel
theorem dX5_judge_18 : decode cX5_judge 18 = .ok (.getfield 10, 3) := by decide +kernel
theorem dX5_judge_21 : decode cX5_judge 21 = .ok (.invokevirtual 156, 3) := by decide +kernel
theorem dX5_judge_24 : decode cX5_judge 24 = .ok (.ifCond .ne 10, 3) := by decide +kernel
theorem dX5_judge_27 : decode cX5_judge 27 = .ok (.aload_n 0, 1) := by decide +kernel
theorem dX5_judge_28 : decode cX5_judge 28 = .ok (.bipush (-3), 2) := by decide +kernel
theorem dX5_judge_30 : decode cX5_judge 30 = .ok (.invokevirtual 71, 3) := by decide +kernel
theorem dX5_judge_33 : decode cX5_judge 33 = .ok (.ireturn, 1) := by decide +kernel
theorem dX5_judge_34 : decode cX5_judge 34 = .ok (.aload_n 0, 1) := by decide +kernel
theorem dX5_judge_35 : decode cX5_judge 35 = .ok (.getfield 63, 3) := by decide +kernel
theorem dX5_judge_38 : decode cX5_judge 38 = .ok (.iload_n 1, 1) := by decide +kernel
theorem dX5_judge_39 : decode cX5_judge 39 = .ok (.aaload, 1) := by decide +kernel
theorem dX5_judge_40 : decode cX5_judge 40 = .ok (.astore_n 2, 1) := by decide +kernel
theorem dX5_judge_41 : decode cX5_judge 41 = .ok (.aload_n 2, 1) := by decide +kernel
theorem dX5_judge_42 : decode cX5_judge 42 = .ok (.invokevirtual 251, 3) := by decide +kernel
theorem dX5_judge_45 : decode cX5_judge 45 = .ok (.ifCond .eq 6, 3) := by decide +kernel
theorem dX5_judge_48 : decode cX5_judge 48 = .ok (.bipush (-11), 2) := by decide +kernel
theorem dX5_judge_50 : decode cX5_judge 50 = .ok (.ireturn, 1) := by decide +kernel
theorem dX5_judge_51 : decode cX5_judge 51 = .ok (.iconst 0, 1) := by decide +kernel
theorem dX5_judge_52 : decode cX5_judge 52 = .ok (.istore_n 3, 1) := by decide +kernel
theorem dX5_judge_53 : decode cX5_judge 53 = .ok (.iload_n 3, 1) := by decide +kernel
theorem dX5_judge_54 : decode cX5_judge 54 = .ok (.iconst 2, 1) := by decide +kernel
theorem dX5_judge_55 : decode cX5_judge 55 = .ok (.aload_n 0, 1) := by decide +kernel
theorem dX5_judge_56 : decode cX5_judge 56 = .ok (.getfield 36, 3) := by decide +kernel
theorem dX5_judge_59 : decode cX5_judge 59 = .ok (.getfield 279, 3) := by decide +kernel
theorem dX5_judge_62 : decode cX5_judge 62 = .ok (.imul, 1) := by decide +kernel
theorem dX5_judge_63 : decode cX5_judge 63 = .ok (.if_icmp .ge 46, 3) := by decide +kernel
theorem dX5_judge_66 : decode cX5_judge 66 = .ok (.aload_n 2, 1) := by decide +kernel
theorem dX5_judge_67 : decode cX5_judge 67 = .ok (.iload_n 3, 1) := by decide +kernel
theorem dX5_judge_68 : decode cX5_judge 68 = .ok (.invokevirtual 261, 3) := by decide +kernel
theorem dX5_judge_71 : decode cX5_judge 71 = .ok (.ifCond .ne 10, 3) := by decide +kernel
theorem dX5_judge_74 : decode cX5_judge 74 = .ok (.bipush 100, 2) := by decide +kernel
theorem dX5_judge_76 : decode cX5_judge 76 = .ok (.iload_n 3, 1) := by decide +kernel
theorem dX5_judge_77 : decode cX5_judge 77 = .ok (.iconst 2, 1) := by decide +kernel
theorem dX5_judge_78 : decode cX5_judge 78 = .ok (.idiv, 1) := by decide +kernel
theorem dX5_judge_79 : decode cX5_judge 79 = .ok (.iadd, 1) := by decide +kernel
theorem dX5_judge_80 : decode cX5_judge 80 = .ok (.ireturn, 1) := by decide +kernel
theorem dX5_judge_81 : decode cX5_judge 81 = .ok (.aload_n 2, 1) := by decide +kernel
theorem dX5_judge_82 : decode cX5_judge 82 = .ok (.getfield 264, 3) := by decide +kernel
theorem dX5_judge_85 : decode cX5_judge 85 = .ok (.iload_n 3, 1) := by decide +kernel
theorem dX5_judge_86 : decode cX5_judge 86 = .ok (.laload, 1) := by decide +kernel
theorem dX5_judge_87 : decode cX5_judge 87 = .ok (.aload_n 0, 1) := by decide +kernel
theorem dX5_judge_88 : decode cX5_judge 88 = .ok (.getfield 36, 3) := by decide +kernel
theorem dX5_judge_91 : decode cX5_judge 91 = .ok (.iload_n 3, 1) := by decide +kernel
theorem dX5_judge_92 : decode cX5_judge 92 = .ok (.invokevirtual 280, 3) := by decide +kernel
theorem dX5_judge_95 : decode cX5_judge 95 = .ok (.lcmp, 1) := by decide +kernel
theorem dX5_judge_96 : decode cX5_judge 96 = .ok (.ifCond .eq 7, 3) := by decide +kernel
theorem dX5_judge_99 : decode cX5_judge 99 = .ok (.iload_n 3, 1) := by decide +kernel
theorem dX5_judge_100 : decode cX5_judge 100 = .ok (.iconst 2, 1) := by decide +kernel
theorem dX5_judge_101 : decode cX5_judge 101 = .ok (.idiv, 1) := by decide +kernel
theorem dX5_judge_102 : decode cX5_judge 102 = .ok (.ireturn, 1) := by decide +kernel
theorem dX5_judge_103 : decode cX5_judge 103 = .ok (.iinc 3 1, 3) := by decide +kernel
theorem dX5_judge_106 : decode cX5_judge 106 = .ok (.goto (-53), 3) := by decide +kernel
theorem dX5_judge_109 : decode cX5_judge 109 = .ok (.bipush (-9), 2) := by decide +kernel
theorem dX5_judge_111 : decode cX5_judge 111 = .ok (.ireturn, 1) := by decide +kernel
theorem dX5_undo_0 : decode cX5_undo 0 = .ok (.aload_n 0, 1) := by decide +kernel
theorem dX5_undo_1 : decode cX5_undo 1 = .ok (.getfield 29, 3) := by decide +kernel
theorem dX5_undo_4 : decode cX5_undo 4 = .ok (.getfield 283, 3) := by decide +kernel
theorem dX5_undo_7 : decode cX5_undo 7 = .ok (.ifCond .ne 10, 3) := by decide +kernel
theorem dX5_undo_10 : decode cX5_undo 10 = .ok (.aload_n 0, 1) := by decide +kernel
theorem dX5_undo_11 : decode cX5_undo 11 = .ok (.bipush (-3), 2) := by decide +kernel
theorem dX5_undo_13 : decode cX5_undo 13 = .ok (.invokevirtual 71, 3) := by decide +kernel
theorem dX5_undo_16 : decode cX5_undo 16 = .ok (.ireturn, 1) := by decide +kernel
theorem dX5_undo_17 : decode cX5_undo 17 = .ok (.aload_n 0, 1) := by decide +kernel
theorem dX5_undo_18 : decode cX5_undo 18 = .ok (.getfield 29, 3) := by decide +kernel
theorem dX5_undo_21 : decode cX5_undo 21 = .ok (.aload_n 0, 1) := by decide +kernel
theorem dX5_undo_22 : decode cX5_undo 22 = .ok (.getfield 10, 3) := by decide +kernel
theorem dX5_undo_25 : decode cX5_undo 25 = .ok (.invokevirtual 284, 3) := by decide +kernel
theorem dX5_undo_28 : decode cX5_undo 28 = .ok (.ireturn, 1) := by decide +kernel
theorem dX5_image_0 : decode cX5_image 0 = .ok (.aload_n 0, 1) := by decide +kernel
theorem dX5_image_1 : decode cX5_image 1 = .ok (.getfield 19, 3) := by decide +kernel
theorem dX5_image_4 : decode cX5_image 4 = .ok (.aload_n 0, 1) := by decide +kernel
theorem dX5_image_5 : decode cX5_image 5 = .ok (.getfield 10, 3) := by decide +kernel
theorem dX5_image_8 : decode cX5_image 8 = .ok (.invokevirtual 75, 3) := by decide +kernel
theorem dX5_image_11 : decode cX5_image 11 = .ok (.aload_n 0, 1) := by decide +kernel
theorem dX5_image_12 : decode cX5_image 12 = .ok (.iconst 1, 1) := by decide +kernel
theorem dX5_image_13 : decode cX5_image 13 = .ok (.putfield 22, 3) := by decide +kernel
theorem dX5_image_16 : decode cX5_image 16 = .ok (.aload_n 0, 1) := by decide +kernel
theorem dX5_image_17 : decode cX5_image 17 = .ok (.getfield 19, 3) := by decide +kernel
theorem dX5_image_20 : decode cX5_image 20 = .ok (.getfield 90, 3) := by decide +kernel
theorem dX5_image_23 : decode cX5_image 23 = .ok (.ireturn, 1) := by decide +kernel
theorem dX5_on_0 : decode cX5_on 0 = .ok (.aload_n 0, 1) := by decide +kernel
theorem dX5_on_1 : decode cX5_on 1 = .ok (.getfield 22, 3) := by decide +kernel
theorem dX5_on_4 : decode cX5_on 4 = .ok (.ifCond .ne 10, 3) := by decide +kernel
theorem dX5_on_7 : decode cX5_on 7 = .ok (.aload_n 0, 1) := by decide +kernel
theorem dX5_on_8 : decode cX5_on 8 = .ok (.bipush (-3), 2) := by decide +kernel
theorem dX5_on_10 : decode cX5_on 10 = .ok (.invokevirtual 71, 3) := by decide +kernel
theorem dX5_on_13 : decode cX5_on 13 = .ok (.ireturn, 1) := by decide +kernel
theorem dX5_on_14 : decode cX5_on 14 = .ok (.aload_n 0, 1) := by decide +kernel
theorem dX5_on_15 : decode cX5_on 15 = .ok (.getfield 10, 3) := by decide +kernel
theorem dX5_on_18 : decode cX5_on 18 = .ok (.aload_n 0, 1) := by decide +kernel
theorem dX5_on_19 : decode cX5_on 19 = .ok (.getfield 19, 3) := by decide +kernel
theorem dX5_on_22 : decode cX5_on 22 = .ok (.invokevirtual 75, 3) := by decide +kernel
theorem dX5_on_25 : decode cX5_on 25 = .ok (.aload_n 0, 1) := by decide +kernel
theorem dX5_on_26 : decode cX5_on 26 = .ok (.getfield 29, 3) := by decide +kernel
theorem dX5_on_29 : decode cX5_on 29 = .ok (.iconst 0, 1) := by decide +kernel
theorem dX5_on_30 : decode cX5_on 30 = .ok (.putfield 283, 3) := by decide +kernel
theorem dX5_on_33 : decode cX5_on 33 = .ok (.aload_n 0, 1) := by decide +kernel
theorem dX5_on_34 : decode cX5_on 34 = .ok (.getfield 10, 3) := by decide +kernel
theorem dX5_on_37 : decode cX5_on 37 = .ok (.getfield 90, 3) := by decide +kernel
theorem dX5_on_40 : decode cX5_on 40 = .ok (.ireturn, 1) := by decide +kernel
theorem dX5_count_0 : decode cX5_count 0 = .ok (.iload_n 1, 1) := by decide +kernel
theorem dX5_count_1 : decode cX5_count 1 = .ok (.tableswitch 69 0 4 #[35, 43, 51, 56, 61], 35) := by decide +kernel
theorem dX5_count_36 : decode cX5_count 36 = .ok (.aload_n 0, 1) := by decide +kernel
theorem dX5_count_37 : decode cX5_count 37 = .ok (.getfield 10, 3) := by decide +kernel
theorem dX5_count_40 : decode cX5_count 40 = .ok (.getfield 90, 3) := by decide +kernel
theorem dX5_count_43 : decode cX5_count 43 = .ok (.ireturn, 1) := by decide +kernel
theorem dX5_count_44 : decode cX5_count 44 = .ok (.aload_n 0, 1) := by decide +kernel
theorem dX5_count_45 : decode cX5_count 45 = .ok (.getfield 10, 3) := by decide +kernel
theorem dX5_count_48 : decode cX5_count 48 = .ok (.invokevirtual 288, 3) := by decide +kernel
theorem dX5_count_51 : decode cX5_count 51 = .ok (.ireturn, 1) := by decide +kernel
theorem dX5_count_52 : decode cX5_count 52 = .ok (.aload_n 0, 1) := by decide +kernel
theorem dX5_count_53 : decode cX5_count 53 = .ok (.getfield 51, 3) := by decide +kernel
theorem dX5_count_56 : decode cX5_count 56 = .ok (.ireturn, 1) := by decide +kernel
theorem dX5_count_57 : decode cX5_count 57 = .ok (.aload_n 0, 1) := by decide +kernel
theorem dX5_count_58 : decode cX5_count 58 = .ok (.getfield 58, 3) := by decide +kernel
theorem dX5_count_61 : decode cX5_count 61 = .ok (.ireturn, 1) := by decide +kernel
theorem dX5_count_62 : decode cX5_count 62 = .ok (.aload_n 0, 1) := by decide +kernel
theorem dX5_count_63 : decode cX5_count 63 = .ok (.getfield 29, 3) := by decide +kernel
theorem dX5_count_66 : decode cX5_count 66 = .ok (.getfield 283, 3) := by decide +kernel
theorem dX5_count_69 : decode cX5_count 69 = .ok (.ireturn, 1) := by decide +kernel
theorem dX5_count_70 : decode cX5_count 70 = .ok (.iload_n 1, 1) := by decide +kernel
theorem dX5_count_71 : decode cX5_count 71 = .ok (.bipush 11, 2) := by decide +kernel
theorem dX5_count_73 : decode cX5_count 73 = .ok (.if_icmp .lt 21, 3) := by decide +kernel
theorem dX5_count_76 : decode cX5_count 76 = .ok (.iload_n 1, 1) := by decide +kernel
theorem dX5_count_77 : decode cX5_count 77 = .ok (.bipush 16, 2) := by decide +kernel
theorem dX5_count_79 : decode cX5_count 79 = .ok (.if_icmp .gt 15, 3) := by decide +kernel
theorem dX5_count_82 : decode cX5_count 82 = .ok (.aload_n 0, 1) := by decide +kernel
theorem dX5_count_83 : decode cX5_count 83 = .ok (.getfield 67, 3) := by decide +kernel
theorem dX5_count_86 : decode cX5_count 86 = .ok (.iload_n 1, 1) := by decide +kernel
theorem dX5_count_87 : decode cX5_count 87 = .ok (.bipush 10, 2) := by decide +kernel
theorem dX5_count_89 : decode cX5_count 89 = .ok (.isub, 1) := by decide +kernel
theorem dX5_count_90 : decode cX5_count 90 = .ok (.iaload, 1) := by decide +kernel
theorem dX5_count_91 : decode cX5_count 91 = .ok (.goto 5, 3) := by decide +kernel
theorem dX5_count_94 : decode cX5_count 94 = .ok (.bipush (-9), 2) := by decide +kernel
theorem dX5_count_96 : decode cX5_count 96 = .ok (.ireturn, 1) := by decide +kernel
theorem dX5_refuse_0 : decode cX5_refuse 0 = .ok (.iload_n 1, 1) := by decide +kernel
theorem dX5_refuse_1 : decode cX5_refuse 1 = .ok (.iconst (-1), 1) := by decide +kernel
theorem dX5_refuse_2 : decode cX5_refuse 2 = .ok (.if_icmp .gt 20, 3) := by decide +kernel
theorem dX5_refuse_5 : decode cX5_refuse 5 = .ok (.iload_n 1, 1) := by decide +kernel
theorem dX5_refuse_6 : decode cX5_refuse 6 = .ok (.bipush (-6), 2) := by decide +kernel
theorem dX5_refuse_8 : decode cX5_refuse 8 = .ok (.if_icmp .lt 14, 3) := by decide +kernel
theorem dX5_refuse_11 : decode cX5_refuse 11 = .ok (.aload_n 0, 1) := by decide +kernel
theorem dX5_refuse_12 : decode cX5_refuse 12 = .ok (.getfield 67, 3) := by decide +kernel
theorem dX5_refuse_15 : decode cX5_refuse 15 = .ok (.iload_n 1, 1) := by decide +kernel
theorem dX5_refuse_16 : decode cX5_refuse 16 = .ok (.ineg, 1) := by decide +kernel
theorem dX5_refuse_17 : decode cX5_refuse 17 = .ok (.dup2, 1) := by decide +kernel
theorem dX5_refuse_18 : decode cX5_refuse 18 = .ok (.iaload, 1) := by decide +kernel
theorem dX5_refuse_19 : decode cX5_refuse 19 = .ok (.iconst 1, 1) := by decide +kernel
theorem dX5_refuse_20 : decode cX5_refuse 20 = .ok (.iadd, 1) := by decide +kernel
theorem dX5_refuse_21 : decode cX5_refuse 21 = .ok (.iastore, 1) := by decide +kernel
theorem dX5_refuse_22 : decode cX5_refuse 22 = .ok (.iload_n 1, 1) := by decide +kernel
theorem dX5_refuse_23 : decode cX5_refuse 23 = .ok (.ireturn, 1) := by decide +kernel
theorem dX5_refuseLong_0 : decode cX5_refuseLong 0 = .ok (.ldc2_w 291, 3) := by decide +kernel
theorem dX5_refuseLong_3 : decode cX5_refuseLong 3 = .ok (.aload_n 0, 1) := by decide +kernel
theorem dX5_refuseLong_4 : decode cX5_refuseLong 4 = .ok (.iload_n 1, 1) := by decide +kernel
theorem dX5_refuseLong_5 : decode cX5_refuseLong 5 = .ok (.invokevirtual 71, 3) := by decide +kernel
theorem dX5_refuseLong_8 : decode cX5_refuseLong 8 = .ok (.i2l, 1) := by decide +kernel
theorem dX5_refuseLong_9 : decode cX5_refuseLong 9 = .ok (.lsub, 1) := by decide +kernel
theorem dX5_refuseLong_10 : decode cX5_refuseLong 10 = .ok (.lreturn, 1) := by decide +kernel
theorem dX5_isOneOfTwo_0 : decode cX5_isOneOfTwo 0 = .ok (.iload_n 0, 1) := by decide +kernel
theorem dX5_isOneOfTwo_1 : decode cX5_isOneOfTwo 1 = .ok (.ifCond .eq 8, 3) := by decide +kernel
theorem dX5_isOneOfTwo_4 : decode cX5_isOneOfTwo 4 = .ok (.iload_n 0, 1) := by decide +kernel
theorem dX5_isOneOfTwo_5 : decode cX5_isOneOfTwo 5 = .ok (.iconst 1, 1) := by decide +kernel
theorem dX5_isOneOfTwo_6 : decode cX5_isOneOfTwo 6 = .ok (.if_icmp .ne 7, 3) := by decide +kernel
theorem dX5_isOneOfTwo_9 : decode cX5_isOneOfTwo 9 = .ok (.iconst 1, 1) := by decide +kernel
theorem dX5_isOneOfTwo_10 : decode cX5_isOneOfTwo 10 = .ok (.goto 4, 3) := by decide +kernel
theorem dX5_isOneOfTwo_13 : decode cX5_isOneOfTwo 13 = .ok (.iconst 0, 1) := by decide +kernel
theorem dX5_isOneOfTwo_14 : decode cX5_isOneOfTwo 14 = .ok (.ireturn, 1) := by decide +kernel
theorem dX5_isList_0 : decode cX5_isList 0 = .ok (.iload_n 0, 1) := by decide +kernel
theorem dX5_isList_1 : decode cX5_isList 1 = .ok (.ifCond .lt 12, 3) := by decide +kernel
theorem dX5_isList_4 : decode cX5_isList 4 = .ok (.iload_n 0, 1) := by decide +kernel
theorem dX5_isList_5 : decode cX5_isList 5 = .ok (.iconst 3, 1) := by decide +kernel
theorem dX5_isList_6 : decode cX5_isList 6 = .ok (.if_icmp .ge 7, 3) := by decide +kernel
theorem dX5_isList_9 : decode cX5_isList 9 = .ok (.iconst 1, 1) := by decide +kernel
theorem dX5_isList_10 : decode cX5_isList 10 = .ok (.goto 4, 3) := by decide +kernel
theorem dX5_isList_13 : decode cX5_isList 13 = .ok (.iconst 0, 1) := by decide +kernel
theorem dX5_isList_14 : decode cX5_isList 14 = .ok (.ireturn, 1) := by decide +kernel
theorem dX5_fitsRow_0 : decode cX5_fitsRow 0 = .ok (.iconst 0, 1) := by decide +kernel
theorem dX5_fitsRow_1 : decode cX5_fitsRow 1 = .ok (.istore_n 3, 1) := by decide +kernel
theorem dX5_fitsRow_2 : decode cX5_fitsRow 2 = .ok (.iload_n 3, 1) := by decide +kernel
theorem dX5_fitsRow_3 : decode cX5_fitsRow 3 = .ok (.aload_n 0, 1) := by decide +kernel
theorem dX5_fitsRow_4 : decode cX5_fitsRow 4 = .ok (.getfield 58, 3) := by decide +kernel
theorem dX5_fitsRow_7 : decode cX5_fitsRow 7 = .ok (.if_icmp .ge 45, 3) := by decide +kernel
theorem dX5_fitsRow_10 : decode cX5_fitsRow 10 = .ok (.aload_n 0, 1) := by decide +kernel
theorem dX5_fitsRow_11 : decode cX5_fitsRow 11 = .ok (.getfield 55, 3) := by decide +kernel
theorem dX5_fitsRow_14 : decode cX5_fitsRow 14 = .ok (.iload_n 3, 1) := by decide +kernel
theorem dX5_fitsRow_15 : decode cX5_fitsRow 15 = .ok (.iaload, 1) := by decide +kernel
theorem dX5_fitsRow_16 : decode cX5_fitsRow 16 = .ok (.iload_n 2, 1) := by decide +kernel
theorem dX5_fitsRow_17 : decode cX5_fitsRow 17 = .ok (.aload_n 0, 1) := by decide +kernel
theorem dX5_fitsRow_18 : decode cX5_fitsRow 18 = .ok (.getfield 10, 3) := by decide +kernel
theorem dX5_fitsRow_21 : decode cX5_fitsRow 21 = .ok (.getfield 126, 3) := by decide +kernel
theorem dX5_fitsRow_24 : decode cX5_fitsRow 24 = .ok (.iload_n 1, 1) := by decide +kernel
theorem dX5_fitsRow_25 : decode cX5_fitsRow 25 = .ok (.iaload, 1) := by decide +kernel
theorem dX5_fitsRow_26 : decode cX5_fitsRow 26 = .ok (.aload_n 0, 1) := by decide +kernel
theorem dX5_fitsRow_27 : decode cX5_fitsRow 27 = .ok (.getfield 10, 3) := by decide +kernel
theorem dX5_fitsRow_30 : decode cX5_fitsRow 30 = .ok (.getfield 129, 3) := by decide +kernel
theorem dX5_fitsRow_33 : decode cX5_fitsRow 33 = .ok (.iload_n 1, 1) := by decide +kernel
theorem dX5_fitsRow_34 : decode cX5_fitsRow 34 = .ok (.iaload, 1) := by decide +kernel
theorem dX5_fitsRow_35 : decode cX5_fitsRow 35 = .ok (.iload_n 3, 1) := by decide +kernel
theorem dX5_fitsRow_36 : decode cX5_fitsRow 36 = .ok (.iconst 1, 1) := by decide +kernel
theorem dX5_fitsRow_37 : decode cX5_fitsRow 37 = .ok (.iadd, 1) := by decide +kernel
theorem dX5_fitsRow_38 : decode cX5_fitsRow 38 = .ok (.invokestatic 293, 3) := by decide +kernel
theorem dX5_fitsRow_41 : decode cX5_fitsRow 41 = .ok (.if_icmp .eq 5, 3) := by decide +kernel
theorem dX5_fitsRow_44 : decode cX5_fitsRow 44 = .ok (.iconst 0, 1) := by decide +kernel
theorem dX5_fitsRow_45 : decode cX5_fitsRow 45 = .ok (.ireturn, 1) := by decide +kernel
theorem dX5_fitsRow_46 : decode cX5_fitsRow 46 = .ok (.iinc 3 1, 3) := by decide +kernel
theorem dX5_fitsRow_49 : decode cX5_fitsRow 49 = .ok (.goto (-47), 3) := by decide +kernel
theorem dX5_fitsRow_52 : decode cX5_fitsRow 52 = .ok (.iconst 1, 1) := by decide +kernel
theorem dX5_fitsRow_53 : decode cX5_fitsRow 53 = .ok (.ireturn, 1) := by decide +kernel
theorem dX5_power_0 : decode cX5_power 0 = .ok (.lconst 1, 1) := by decide +kernel
theorem dX5_power_1 : decode cX5_power 1 = .ok (.lstore_n 3, 1) := by decide +kernel
theorem dX5_power_2 : decode cX5_power 2 = .ok (.iconst 0, 1) := by decide +kernel
theorem dX5_power_3 : decode cX5_power 3 = .ok (.istore 5, 2) := by decide +kernel
theorem dX5_power_5 : decode cX5_power 5 = .ok (.iload 5, 2) := by decide +kernel
theorem dX5_power_7 : decode cX5_power 7 = .ok (.iload_n 2, 1) := by decide +kernel
theorem dX5_power_8 : decode cX5_power 8 = .ok (.if_icmp .ge 13, 3) := by decide +kernel
theorem dX5_power_11 : decode cX5_power 11 = .ok (.lload_n 3, 1) := by decide +kernel
theorem dX5_power_12 : decode cX5_power 12 = .ok (.lload_n 0, 1) := by decide +kernel
theorem dX5_power_13 : decode cX5_power 13 = .ok (.lmul, 1) := by decide +kernel
theorem dX5_power_14 : decode cX5_power 14 = .ok (.lstore_n 3, 1) := by decide +kernel
theorem dX5_power_15 : decode cX5_power 15 = .ok (.iinc 5 1, 3) := by decide +kernel
theorem dX5_power_18 : decode cX5_power 18 = .ok (.goto (-13), 3) := by decide +kernel
theorem dX5_power_21 : decode cX5_power 21 = .ok (.lload_n 3, 1) := by decide +kernel
theorem dX5_power_22 : decode cX5_power 22 = .ok (.lreturn, 1) := by decide +kernel
theorem dX5_fraction_0 : decode cX5_fraction 0 = .ok (.lload_n 0, 1) := by decide +kernel
theorem dX5_fraction_1 : decode cX5_fraction 1 = .ok (.lload_n 2, 1) := by decide +kernel
theorem dX5_fraction_2 : decode cX5_fraction 2 = .ok (.invokestatic 296, 3) := by decide +kernel
theorem dX5_fraction_5 : decode cX5_fraction 5 = .ok (.lstore 5, 2) := by decide +kernel
theorem dX5_fraction_7 : decode cX5_fraction 7 = .ok (.lload_n 2, 1) := by decide +kernel
theorem dX5_fraction_8 : decode cX5_fraction 8 = .ok (.lconst 0, 1) := by decide +kernel
theorem dX5_fraction_9 : decode cX5_fraction 9 = .ok (.lcmp, 1) := by decide +kernel
theorem dX5_fraction_10 : decode cX5_fraction 10 = .ok (.ifCond .eq 10, 3) := by decide +kernel
theorem dX5_fraction_13 : decode cX5_fraction 13 = .ok (.lload 5, 2) := by decide +kernel
theorem dX5_fraction_15 : decode cX5_fraction 15 = .ok (.lconst 0, 1) := by decide +kernel
theorem dX5_fraction_16 : decode cX5_fraction 16 = .ok (.lcmp, 1) := by decide +kernel
theorem dX5_fraction_17 : decode cX5_fraction 17 = .ok (.ifCond .ne 7, 3) := by decide +kernel
theorem dX5_fraction_20 : decode cX5_fraction 20 = .ok (.iload 4, 2) := by decide +kernel
theorem dX5_fraction_22 : decode cX5_fraction 22 = .ok (.i2l, 1) := by decide +kernel
theorem dX5_fraction_23 : decode cX5_fraction 23 = .ok (.lreturn, 1) := by decide +kernel
theorem dX5_fraction_24 : decode cX5_fraction 24 = .ok (.lload_n 2, 1) := by decide +kernel
theorem dX5_fraction_25 : decode cX5_fraction 25 = .ok (.lconst 0, 1) := by decide +kernel
theorem dX5_fraction_26 : decode cX5_fraction 26 = .ok (.lcmp, 1) := by decide +kernel
theorem dX5_fraction_27 : decode cX5_fraction 27 = .ok (.ifCond .ge 8, 3) := by decide +kernel
theorem dX5_fraction_30 : decode cX5_fraction 30 = .ok (.lload 5, 2) := by decide +kernel
theorem dX5_fraction_32 : decode cX5_fraction 32 = .ok (.lneg, 1) := by decide +kernel
theorem dX5_fraction_33 : decode cX5_fraction 33 = .ok (.lstore 5, 2) := by decide +kernel
theorem dX5_fraction_35 : decode cX5_fraction 35 = .ok (.iload 4, 2) := by decide +kernel
theorem dX5_fraction_37 : decode cX5_fraction 37 = .ok (.ifCond .ne 10, 3) := by decide +kernel
theorem dX5_fraction_40 : decode cX5_fraction 40 = .ok (.lload_n 0, 1) := by decide +kernel
theorem dX5_fraction_41 : decode cX5_fraction 41 = .ok (.lload 5, 2) := by decide +kernel
theorem dX5_fraction_43 : decode cX5_fraction 43 = .ok (.ldiv, 1) := by decide +kernel
theorem dX5_fraction_44 : decode cX5_fraction 44 = .ok (.goto 7, 3) := by decide +kernel
theorem dX5_fraction_47 : decode cX5_fraction 47 = .ok (.lload_n 2, 1) := by decide +kernel
theorem dX5_fraction_48 : decode cX5_fraction 48 = .ok (.lload 5, 2) := by decide +kernel
theorem dX5_fraction_50 : decode cX5_fraction 50 = .ok (.ldiv, 1) := by decide +kernel
theorem dX5_fraction_51 : decode cX5_fraction 51 = .ok (.lreturn, 1) := by decide +kernel
theorem dX5_commonDivisor_0 : decode cX5_commonDivisor 0 = .ok (.lload_n 0, 1) := by decide +kernel
theorem dX5_commonDivisor_1 : decode cX5_commonDivisor 1 = .ok (.invokestatic 300, 3) := by decide +kernel
theorem dX5_commonDivisor_4 : decode cX5_commonDivisor 4 = .ok (.lstore 4, 2) := by decide +kernel
theorem dX5_commonDivisor_6 : decode cX5_commonDivisor 6 = .ok (.lload_n 2, 1) := by decide +kernel
theorem dX5_commonDivisor_7 : decode cX5_commonDivisor 7 = .ok (.invokestatic 300, 3) := by decide +kernel
theorem dX5_commonDivisor_10 : decode cX5_commonDivisor 10 = .ok (.lstore 6, 2) := by decide +kernel
theorem dX5_commonDivisor_12 : decode cX5_commonDivisor 12 = .ok (.iconst 0, 1) := by decide +kernel
theorem dX5_commonDivisor_13 : decode cX5_commonDivisor 13 = .ok (.istore 8, 2) := by decide +kernel
theorem dX5_commonDivisor_15 : decode cX5_commonDivisor 15 = .ok (.iload 8, 2) := by decide +kernel
theorem dX5_commonDivisor_17 : decode cX5_commonDivisor 17 = .ok (.bipush 100, 2) := by decide +kernel
theorem dX5_commonDivisor_19 : decode cX5_commonDivisor 19 = .ok (.if_icmp .ge 31, 3) := by decide +kernel
theorem dX5_commonDivisor_22 : decode cX5_commonDivisor 22 = .ok (.lload 6, 2) := by decide +kernel
theorem dX5_commonDivisor_24 : decode cX5_commonDivisor 24 = .ok (.lconst 0, 1) := by decide +kernel
theorem dX5_commonDivisor_25 : decode cX5_commonDivisor 25 = .ok (.lcmp, 1) := by decide +kernel
theorem dX5_commonDivisor_26 : decode cX5_commonDivisor 26 = .ok (.ifCond .eq 24, 3) := by decide +kernel
theorem dX5_commonDivisor_29 : decode cX5_commonDivisor 29 = .ok (.lload 4, 2) := by decide +kernel
theorem dX5_commonDivisor_31 : decode cX5_commonDivisor 31 = .ok (.lload 6, 2) := by decide +kernel
theorem dX5_commonDivisor_33 : decode cX5_commonDivisor 33 = .ok (.lrem, 1) := by decide +kernel
theorem dX5_commonDivisor_34 : decode cX5_commonDivisor 34 = .ok (.lstore 9, 2) := by decide +kernel
theorem dX5_commonDivisor_36 : decode cX5_commonDivisor 36 = .ok (.lload 6, 2) := by decide +kernel
theorem dX5_commonDivisor_38 : decode cX5_commonDivisor 38 = .ok (.lstore 4, 2) := by decide +kernel
theorem dX5_commonDivisor_40 : decode cX5_commonDivisor 40 = .ok (.lload 9, 2) := by decide +kernel
theorem dX5_commonDivisor_42 : decode cX5_commonDivisor 42 = .ok (.lstore 6, 2) := by decide +kernel
theorem dX5_commonDivisor_44 : decode cX5_commonDivisor 44 = .ok (.iinc 8 1, 3) := by decide +kernel
theorem dX5_commonDivisor_47 : decode cX5_commonDivisor 47 = .ok (.goto (-32), 3) := by decide +kernel
theorem dX5_commonDivisor_50 : decode cX5_commonDivisor 50 = .ok (.lload 4, 2) := by decide +kernel
theorem dX5_commonDivisor_52 : decode cX5_commonDivisor 52 = .ok (.lreturn, 1) := by decide +kernel
