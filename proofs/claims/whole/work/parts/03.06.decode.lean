theorem d_MD_reduce_45 : decode b_MD_reduce 45 = .ok (.aload_n 0, 1) := by decide +kernel
theorem d_MD_reduce_46 : decode b_MD_reduce 46 = .ok (.getfield 33, 3) := by decide +kernel
theorem d_MD_reduce_49 : decode b_MD_reduce 49 = .ok (.aload_n 0, 1) := by decide +kernel
theorem d_MD_reduce_50 : decode b_MD_reduce 50 = .ok (.getfield 69, 3) := by decide +kernel
theorem d_MD_reduce_53 : decode b_MD_reduce 53 = .ok (.iconst 1, 1) := by decide +kernel
theorem d_MD_reduce_54 : decode b_MD_reduce 54 = .ok (.isub, 1) := by decide +kernel
theorem d_MD_reduce_55 : decode b_MD_reduce 55 = .ok (.laload, 1) := by decide +kernel
theorem d_MD_reduce_56 : decode b_MD_reduce 56 = .ok (.lstore_n 3, 1) := by decide +kernel
theorem d_MD_reduce_57 : decode b_MD_reduce 57 = .ok (.iload_n 2, 1) := by decide +kernel
theorem d_MD_reduce_58 : decode b_MD_reduce 58 = .ok (.bipush 33, 2) := by decide +kernel
theorem d_MD_reduce_60 : decode b_MD_reduce 60 = .ok (.if_icmp .ne 22, 3) := by decide +kernel
theorem d_MD_reduce_63 : decode b_MD_reduce 63 = .ok (.aload_n 0, 1) := by decide +kernel
theorem d_MD_reduce_64 : decode b_MD_reduce 64 = .ok (.getfield 33, 3) := by decide +kernel
theorem d_MD_reduce_67 : decode b_MD_reduce 67 = .ok (.aload_n 0, 1) := by decide +kernel
theorem d_MD_reduce_68 : decode b_MD_reduce 68 = .ok (.getfield 69, 3) := by decide +kernel
theorem d_MD_reduce_71 : decode b_MD_reduce 71 = .ok (.iconst 1, 1) := by decide +kernel
theorem d_MD_reduce_72 : decode b_MD_reduce 72 = .ok (.isub, 1) := by decide +kernel
theorem d_MD_reduce_73 : decode b_MD_reduce 73 = .ok (.lload_n 3, 1) := by decide +kernel
theorem d_MD_reduce_74 : decode b_MD_reduce 74 = .ok (.ldc2_w 52, 3) := by decide +kernel
theorem d_MD_reduce_77 : decode b_MD_reduce 77 = .ok (.lxor, 1) := by decide +kernel
theorem d_MD_reduce_78 : decode b_MD_reduce 78 = .ok (.lastore, 1) := by decide +kernel
theorem d_MD_reduce_79 : decode b_MD_reduce 79 = .ok (.goto 67, 3) := by decide +kernel
theorem d_MD_reduce_82 : decode b_MD_reduce 82 = .ok (.aload_n 0, 1) := by decide +kernel
theorem d_MD_reduce_83 : decode b_MD_reduce 83 = .ok (.dup, 1) := by decide +kernel
theorem d_MD_reduce_84 : decode b_MD_reduce 84 = .ok (.getfield 69, 3) := by decide +kernel
theorem d_MD_reduce_87 : decode b_MD_reduce 87 = .ok (.iconst 1, 1) := by decide +kernel
theorem d_MD_reduce_88 : decode b_MD_reduce 88 = .ok (.isub, 1) := by decide +kernel
theorem d_MD_reduce_89 : decode b_MD_reduce 89 = .ok (.putfield 69, 3) := by decide +kernel
theorem d_MD_reduce_92 : decode b_MD_reduce 92 = .ok (.aload_n 0, 1) := by decide +kernel
theorem d_MD_reduce_93 : decode b_MD_reduce 93 = .ok (.getfield 33, 3) := by decide +kernel
theorem d_MD_reduce_96 : decode b_MD_reduce 96 = .ok (.aload_n 0, 1) := by decide +kernel
theorem d_MD_reduce_97 : decode b_MD_reduce 97 = .ok (.getfield 69, 3) := by decide +kernel
theorem d_MD_reduce_100 : decode b_MD_reduce 100 = .ok (.iconst 1, 1) := by decide +kernel
theorem d_MD_reduce_101 : decode b_MD_reduce 101 = .ok (.isub, 1) := by decide +kernel
theorem d_MD_reduce_102 : decode b_MD_reduce 102 = .ok (.laload, 1) := by decide +kernel
theorem d_MD_reduce_103 : decode b_MD_reduce 103 = .ok (.lstore 5, 2) := by decide +kernel
theorem d_MD_reduce_105 : decode b_MD_reduce 105 = .ok (.aload_n 0, 1) := by decide +kernel
theorem d_MD_reduce_106 : decode b_MD_reduce 106 = .ok (.getfield 33, 3) := by decide +kernel
theorem d_MD_reduce_109 : decode b_MD_reduce 109 = .ok (.aload_n 0, 1) := by decide +kernel
theorem d_MD_reduce_110 : decode b_MD_reduce 110 = .ok (.getfield 69, 3) := by decide +kernel
theorem d_MD_reduce_113 : decode b_MD_reduce 113 = .ok (.iconst 1, 1) := by decide +kernel
theorem d_MD_reduce_114 : decode b_MD_reduce 114 = .ok (.isub, 1) := by decide +kernel
theorem d_MD_reduce_115 : decode b_MD_reduce 115 = .ok (.iload_n 2, 1) := by decide +kernel
theorem d_MD_reduce_116 : decode b_MD_reduce 116 = .ok (.bipush 38, 2) := by decide +kernel
theorem d_MD_reduce_118 : decode b_MD_reduce 118 = .ok (.if_icmp .ne 10, 3) := by decide +kernel
theorem d_MD_reduce_121 : decode b_MD_reduce 121 = .ok (.lload 5, 2) := by decide +kernel
theorem d_MD_reduce_123 : decode b_MD_reduce 123 = .ok (.lload_n 3, 1) := by decide +kernel
theorem d_MD_reduce_124 : decode b_MD_reduce 124 = .ok (.land, 1) := by decide +kernel
theorem d_MD_reduce_125 : decode b_MD_reduce 125 = .ok (.goto 20, 3) := by decide +kernel
theorem d_MD_reduce_128 : decode b_MD_reduce 128 = .ok (.iload_n 2, 1) := by decide +kernel
theorem d_MD_reduce_129 : decode b_MD_reduce 129 = .ok (.bipush 94, 2) := by decide +kernel
theorem d_MD_reduce_131 : decode b_MD_reduce 131 = .ok (.if_icmp .ne 10, 3) := by decide +kernel
theorem d_MD_reduce_134 : decode b_MD_reduce 134 = .ok (.lload 5, 2) := by decide +kernel
theorem d_MD_reduce_136 : decode b_MD_reduce 136 = .ok (.lload_n 3, 1) := by decide +kernel
theorem d_MD_reduce_137 : decode b_MD_reduce 137 = .ok (.lxor, 1) := by decide +kernel
theorem d_MD_reduce_138 : decode b_MD_reduce 138 = .ok (.goto 7, 3) := by decide +kernel
theorem d_MD_reduce_141 : decode b_MD_reduce 141 = .ok (.lload 5, 2) := by decide +kernel
theorem d_MD_reduce_143 : decode b_MD_reduce 143 = .ok (.lload_n 3, 1) := by decide +kernel
theorem d_MD_reduce_144 : decode b_MD_reduce 144 = .ok (.lor, 1) := by decide +kernel
theorem d_MD_reduce_145 : decode b_MD_reduce 145 = .ok (.lastore, 1) := by decide +kernel
theorem d_MD_reduce_146 : decode b_MD_reduce 146 = .ok (.goto (-146), 3) := by decide +kernel
theorem d_MD_reduce_149 : decode b_MD_reduce 149 = .ok (.return_, 1) := by decide +kernel
theorem d_MD_strength_0 : decode b_MD_strength 0 = .ok (.iload_n 0, 1) := by decide +kernel
theorem d_MD_strength_1 : decode b_MD_strength 1 = .ok (.bipush 33, 2) := by decide +kernel
theorem d_MD_strength_3 : decode b_MD_strength 3 = .ok (.if_icmp .ne 7, 3) := by decide +kernel
theorem d_MD_strength_6 : decode b_MD_strength 6 = .ok (.iconst 4, 1) := by decide +kernel
theorem d_MD_strength_7 : decode b_MD_strength 7 = .ok (.goto 34, 3) := by decide +kernel
theorem d_MD_strength_10 : decode b_MD_strength 10 = .ok (.iload_n 0, 1) := by decide +kernel
theorem d_MD_strength_11 : decode b_MD_strength 11 = .ok (.bipush 38, 2) := by decide +kernel
theorem d_MD_strength_13 : decode b_MD_strength 13 = .ok (.if_icmp .ne 7, 3) := by decide +kernel
theorem d_MD_strength_16 : decode b_MD_strength 16 = .ok (.iconst 3, 1) := by decide +kernel
theorem d_MD_strength_17 : decode b_MD_strength 17 = .ok (.goto 24, 3) := by decide +kernel
theorem d_MD_strength_20 : decode b_MD_strength 20 = .ok (.iload_n 0, 1) := by decide +kernel
theorem d_MD_strength_21 : decode b_MD_strength 21 = .ok (.bipush 94, 2) := by decide +kernel
theorem d_MD_strength_23 : decode b_MD_strength 23 = .ok (.if_icmp .ne 7, 3) := by decide +kernel
theorem d_MD_strength_26 : decode b_MD_strength 26 = .ok (.iconst 2, 1) := by decide +kernel
theorem d_MD_strength_27 : decode b_MD_strength 27 = .ok (.goto 14, 3) := by decide +kernel
theorem d_MD_strength_30 : decode b_MD_strength 30 = .ok (.iload_n 0, 1) := by decide +kernel
theorem d_MD_strength_31 : decode b_MD_strength 31 = .ok (.bipush 124, 2) := by decide +kernel
theorem d_MD_strength_33 : decode b_MD_strength 33 = .ok (.if_icmp .ne 7, 3) := by decide +kernel
theorem d_MD_strength_36 : decode b_MD_strength 36 = .ok (.iconst 1, 1) := by decide +kernel
theorem d_MD_strength_37 : decode b_MD_strength 37 = .ok (.goto 4, 3) := by decide +kernel
theorem d_MD_strength_40 : decode b_MD_strength 40 = .ok (.iconst 0, 1) := by decide +kernel
theorem d_MD_strength_41 : decode b_MD_strength 41 = .ok (.ireturn, 1) := by decide +kernel
theorem d_MD_equal_0 : decode b_MD_equal 0 = .ok (.aload_n 0, 1) := by decide +kernel
theorem d_MD_equal_1 : decode b_MD_equal 1 = .ok (.iload_n 1, 1) := by decide +kernel
theorem d_MD_equal_2 : decode b_MD_equal 2 = .ok (.invokestatic 54, 3) := by decide +kernel
theorem d_MD_equal_5 : decode b_MD_equal 5 = .ok (.ifCond .eq 10, 3) := by decide +kernel
theorem d_MD_equal_8 : decode b_MD_equal 8 = .ok (.iload_n 2, 1) := by decide +kernel
theorem d_MD_equal_9 : decode b_MD_equal 9 = .ok (.invokestatic 54, 3) := by decide +kernel
theorem d_MD_equal_12 : decode b_MD_equal 12 = .ok (.ifCond .ne 7, 3) := by decide +kernel
theorem d_MD_equal_15 : decode b_MD_equal 15 = .ok (.iconst 1, 1) := by decide +kernel
theorem d_MD_equal_16 : decode b_MD_equal 16 = .ok (.goto 26, 3) := by decide +kernel
theorem d_MD_equal_19 : decode b_MD_equal 19 = .ok (.aload_n 0, 1) := by decide +kernel
theorem d_MD_equal_20 : decode b_MD_equal 20 = .ok (.getfield 13, 3) := by decide +kernel
theorem d_MD_equal_23 : decode b_MD_equal 23 = .ok (.iload_n 1, 1) := by decide +kernel
theorem d_MD_equal_24 : decode b_MD_equal 24 = .ok (.baload, 1) := by decide +kernel
theorem d_MD_equal_25 : decode b_MD_equal 25 = .ok (.ifCond .eq 16, 3) := by decide +kernel
theorem d_MD_equal_28 : decode b_MD_equal 28 = .ok (.aload_n 0, 1) := by decide +kernel
theorem d_MD_equal_29 : decode b_MD_equal 29 = .ok (.getfield 13, 3) := by decide +kernel
theorem d_MD_equal_32 : decode b_MD_equal 32 = .ok (.iload_n 2, 1) := by decide +kernel
theorem d_MD_equal_33 : decode b_MD_equal 33 = .ok (.baload, 1) := by decide +kernel
theorem d_MD_equal_34 : decode b_MD_equal 34 = .ok (.ifCond .eq 7, 3) := by decide +kernel
theorem d_MD_equal_37 : decode b_MD_equal 37 = .ok (.iconst 0, 1) := by decide +kernel
theorem d_MD_equal_38 : decode b_MD_equal 38 = .ok (.goto 4, 3) := by decide +kernel
theorem d_MD_equal_41 : decode b_MD_equal 41 = .ok (.iconst 2, 1) := by decide +kernel
theorem d_MD_equal_42 : decode b_MD_equal 42 = .ok (.putfield 36, 3) := by decide +kernel
theorem d_MD_equal_45 : decode b_MD_equal 45 = .ok (.aload_n 0, 1) := by decide +kernel
theorem d_MD_equal_46 : decode b_MD_equal 46 = .ok (.getfield 36, 3) := by decide +kernel
theorem d_MD_equal_49 : decode b_MD_equal 49 = .ok (.ifCond .ne 23, 3) := by decide +kernel
theorem d_MD_equal_52 : decode b_MD_equal 52 = .ok (.aload_n 0, 1) := by decide +kernel
theorem d_MD_equal_53 : decode b_MD_equal 53 = .ok (.getfield 7, 3) := by decide +kernel
theorem d_MD_equal_56 : decode b_MD_equal 56 = .ok (.iload_n 1, 1) := by decide +kernel
theorem d_MD_equal_57 : decode b_MD_equal 57 = .ok (.laload, 1) := by decide +kernel
theorem d_MD_equal_58 : decode b_MD_equal 58 = .ok (.aload_n 0, 1) := by decide +kernel
theorem d_MD_equal_59 : decode b_MD_equal 59 = .ok (.getfield 7, 3) := by decide +kernel
theorem d_MD_equal_62 : decode b_MD_equal 62 = .ok (.iload_n 2, 1) := by decide +kernel
theorem d_MD_equal_63 : decode b_MD_equal 63 = .ok (.laload, 1) := by decide +kernel
theorem d_MD_equal_64 : decode b_MD_equal 64 = .ok (.lcmp, 1) := by decide +kernel
theorem d_MD_equal_65 : decode b_MD_equal 65 = .ok (.ifCond .ne 7, 3) := by decide +kernel
theorem d_MD_equal_68 : decode b_MD_equal 68 = .ok (.iconst 1, 1) := by decide +kernel
theorem d_MD_equal_69 : decode b_MD_equal 69 = .ok (.goto 4, 3) := by decide +kernel
theorem d_MD_equal_72 : decode b_MD_equal 72 = .ok (.iconst 0, 1) := by decide +kernel
theorem d_MD_equal_73 : decode b_MD_equal 73 = .ok (.ireturn, 1) := by decide +kernel
theorem d_MD_value_0 : decode b_MD_value 0 = .ok (.aload_n 0, 1) := by decide +kernel
theorem d_MD_value_1 : decode b_MD_value 1 = .ok (.iload_n 1, 1) := by decide +kernel
theorem d_MD_value_2 : decode b_MD_value 2 = .ok (.invokestatic 54, 3) := by decide +kernel
theorem d_MD_value_5 : decode b_MD_value 5 = .ok (.ifCond .eq 13, 3) := by decide +kernel
theorem d_MD_value_8 : decode b_MD_value 8 = .ok (.iload_n 2, 1) := by decide +kernel
theorem d_MD_value_9 : decode b_MD_value 9 = .ok (.iconst 0, 1) := by decide +kernel
theorem d_MD_value_10 : decode b_MD_value 10 = .ok (.bipush 63, 2) := by decide +kernel
theorem d_MD_value_12 : decode b_MD_value 12 = .ok (.invokestatic 40, 3) := by decide +kernel
theorem d_MD_value_15 : decode b_MD_value 15 = .ok (.ifCond .ne 7, 3) := by decide +kernel
theorem d_MD_value_18 : decode b_MD_value 18 = .ok (.iconst 1, 1) := by decide +kernel
theorem d_MD_value_19 : decode b_MD_value 19 = .ok (.goto 17, 3) := by decide +kernel
theorem d_MD_value_22 : decode b_MD_value 22 = .ok (.aload_n 0, 1) := by decide +kernel
theorem d_MD_value_23 : decode b_MD_value 23 = .ok (.getfield 13, 3) := by decide +kernel
theorem d_MD_value_26 : decode b_MD_value 26 = .ok (.iload_n 1, 1) := by decide +kernel
theorem d_MD_value_27 : decode b_MD_value 27 = .ok (.baload, 1) := by decide +kernel
theorem d_MD_value_28 : decode b_MD_value 28 = .ok (.ifCond .eq 7, 3) := by decide +kernel
theorem d_MD_value_31 : decode b_MD_value 31 = .ok (.iconst 0, 1) := by decide +kernel
theorem d_MD_value_32 : decode b_MD_value 32 = .ok (.goto 4, 3) := by decide +kernel
theorem d_MD_value_35 : decode b_MD_value 35 = .ok (.iconst 2, 1) := by decide +kernel
theorem d_MD_value_36 : decode b_MD_value 36 = .ok (.putfield 36, 3) := by decide +kernel
theorem d_MD_value_39 : decode b_MD_value 39 = .ok (.aload_n 0, 1) := by decide +kernel
theorem d_MD_value_40 : decode b_MD_value 40 = .ok (.getfield 36, 3) := by decide +kernel
theorem d_MD_value_43 : decode b_MD_value 43 = .ok (.ifCond .ne 20, 3) := by decide +kernel
theorem d_MD_value_46 : decode b_MD_value 46 = .ok (.aload_n 0, 1) := by decide +kernel
theorem d_MD_value_47 : decode b_MD_value 47 = .ok (.getfield 7, 3) := by decide +kernel
theorem d_MD_value_50 : decode b_MD_value 50 = .ok (.iload_n 1, 1) := by decide +kernel
theorem d_MD_value_51 : decode b_MD_value 51 = .ok (.laload, 1) := by decide +kernel
theorem d_MD_value_52 : decode b_MD_value 52 = .ok (.iload_n 2, 1) := by decide +kernel
theorem d_MD_value_53 : decode b_MD_value 53 = .ok (.invokestatic 44, 3) := by decide +kernel
theorem d_MD_value_56 : decode b_MD_value 56 = .ok (.ifCond .eq 7, 3) := by decide +kernel
theorem d_MD_value_59 : decode b_MD_value 59 = .ok (.iconst 1, 1) := by decide +kernel
theorem d_MD_value_60 : decode b_MD_value 60 = .ok (.goto 4, 3) := by decide +kernel
theorem d_MD_value_63 : decode b_MD_value 63 = .ok (.iconst 0, 1) := by decide +kernel
theorem d_MD_value_64 : decode b_MD_value 64 = .ok (.ireturn, 1) := by decide +kernel
theorem d_MD_count_0 : decode b_MD_count 0 = .ok (.aload_n 0, 1) := by decide +kernel
theorem d_MD_count_1 : decode b_MD_count 1 = .ok (.aload_n 0, 1) := by decide +kernel
theorem d_MD_count_2 : decode b_MD_count 2 = .ok (.iload_n 1, 1) := by decide +kernel
theorem d_MD_count_3 : decode b_MD_count 3 = .ok (.invokevirtual 94, 3) := by decide +kernel
theorem d_MD_count_6 : decode b_MD_count 6 = .ok (.putfield 36, 3) := by decide +kernel
theorem d_MD_count_9 : decode b_MD_count 9 = .ok (.iconst 0, 1) := by decide +kernel
theorem d_MD_count_10 : decode b_MD_count 10 = .ok (.istore_n 2, 1) := by decide +kernel
theorem d_MD_count_11 : decode b_MD_count 11 = .ok (.iconst 0, 1) := by decide +kernel
theorem d_MD_count_12 : decode b_MD_count 12 = .ok (.istore_n 3, 1) := by decide +kernel
theorem d_MD_count_13 : decode b_MD_count 13 = .ok (.iload_n 3, 1) := by decide +kernel
theorem d_MD_count_14 : decode b_MD_count 14 = .ok (.bipush 64, 2) := by decide +kernel
theorem d_MD_count_16 : decode b_MD_count 16 = .ok (.if_icmp .ge 37, 3) := by decide +kernel
theorem d_MD_count_19 : decode b_MD_count 19 = .ok (.aload_n 0, 1) := by decide +kernel
theorem d_MD_count_20 : decode b_MD_count 20 = .ok (.getfield 36, 3) := by decide +kernel
theorem d_MD_count_23 : decode b_MD_count 23 = .ok (.ifCond .ne 30, 3) := by decide +kernel
theorem d_MD_count_26 : decode b_MD_count 26 = .ok (.aload_n 0, 1) := by decide +kernel
theorem d_MD_count_27 : decode b_MD_count 27 = .ok (.getfield 7, 3) := by decide +kernel
theorem d_MD_count_30 : decode b_MD_count 30 = .ok (.iload_n 1, 1) := by decide +kernel
theorem d_MD_count_31 : decode b_MD_count 31 = .ok (.laload, 1) := by decide +kernel
theorem d_MD_count_32 : decode b_MD_count 32 = .ok (.iload_n 3, 1) := by decide +kernel
theorem d_MD_count_33 : decode b_MD_count 33 = .ok (.invokestatic 44, 3) := by decide +kernel
theorem d_MD_count_36 : decode b_MD_count 36 = .ok (.ifCond .eq 9, 3) := by decide +kernel
theorem d_MD_count_39 : decode b_MD_count 39 = .ok (.iload_n 2, 1) := by decide +kernel
theorem d_MD_count_40 : decode b_MD_count 40 = .ok (.iconst 1, 1) := by decide +kernel
theorem d_MD_count_41 : decode b_MD_count 41 = .ok (.iadd, 1) := by decide +kernel
theorem d_MD_count_42 : decode b_MD_count 42 = .ok (.goto 4, 3) := by decide +kernel
theorem d_MD_count_45 : decode b_MD_count 45 = .ok (.iload_n 2, 1) := by decide +kernel
theorem d_MD_count_46 : decode b_MD_count 46 = .ok (.istore_n 2, 1) := by decide +kernel
theorem d_MD_count_47 : decode b_MD_count 47 = .ok (.iinc 3 1, 3) := by decide +kernel
theorem d_MD_count_50 : decode b_MD_count 50 = .ok (.goto (-37), 3) := by decide +kernel
theorem d_MD_count_53 : decode b_MD_count 53 = .ok (.iload_n 2, 1) := by decide +kernel
theorem d_MD_count_54 : decode b_MD_count 54 = .ok (.ireturn, 1) := by decide +kernel
theorem d_MD_lack_0 : decode b_MD_lack 0 = .ok (.iload_n 1, 1) := by decide +kernel
theorem d_MD_lack_1 : decode b_MD_lack 1 = .ok (.invokestatic 54, 3) := by decide +kernel
theorem d_MD_lack_4 : decode b_MD_lack 4 = .ok (.ifCond .ne 7, 3) := by decide +kernel
theorem d_MD_lack_7 : decode b_MD_lack 7 = .ok (.iconst 1, 1) := by decide +kernel
theorem d_MD_lack_8 : decode b_MD_lack 8 = .ok (.goto 17, 3) := by decide +kernel
theorem d_MD_lack_11 : decode b_MD_lack 11 = .ok (.aload_n 0, 1) := by decide +kernel
theorem d_MD_lack_12 : decode b_MD_lack 12 = .ok (.getfield 13, 3) := by decide +kernel
theorem d_MD_lack_15 : decode b_MD_lack 15 = .ok (.iload_n 1, 1) := by decide +kernel
theorem d_MD_lack_16 : decode b_MD_lack 16 = .ok (.baload, 1) := by decide +kernel
theorem d_MD_lack_17 : decode b_MD_lack 17 = .ok (.ifCond .eq 7, 3) := by decide +kernel
theorem d_MD_lack_20 : decode b_MD_lack 20 = .ok (.iconst 0, 1) := by decide +kernel
theorem d_MD_lack_21 : decode b_MD_lack 21 = .ok (.goto 4, 3) := by decide +kernel
theorem d_MD_lack_24 : decode b_MD_lack 24 = .ok (.iconst 2, 1) := by decide +kernel
theorem d_MD_lack_25 : decode b_MD_lack 25 = .ok (.ireturn, 1) := by decide +kernel
theorem d_MD_least_0 : decode b_MD_least 0 = .ok (.aload_n 0, 1) := by decide +kernel
theorem d_MD_least_1 : decode b_MD_least 1 = .ok (.aload_n 0, 1) := by decide +kernel
theorem d_MD_least_2 : decode b_MD_least 2 = .ok (.iload_n 1, 1) := by decide +kernel
theorem d_MD_least_3 : decode b_MD_least 3 = .ok (.invokevirtual 94, 3) := by decide +kernel
theorem d_MD_least_6 : decode b_MD_least 6 = .ok (.putfield 36, 3) := by decide +kernel
theorem d_MD_least_9 : decode b_MD_least 9 = .ok (.iconst 0, 1) := by decide +kernel
theorem d_MD_least_10 : decode b_MD_least 10 = .ok (.istore_n 2, 1) := by decide +kernel
theorem d_MD_least_11 : decode b_MD_least 11 = .ok (.iload_n 2, 1) := by decide +kernel
theorem d_MD_least_12 : decode b_MD_least 12 = .ok (.bipush 64, 2) := by decide +kernel
theorem d_MD_least_14 : decode b_MD_least 14 = .ok (.if_icmp .ge 31, 3) := by decide +kernel
theorem d_MD_least_17 : decode b_MD_least 17 = .ok (.aload_n 0, 1) := by decide +kernel
theorem d_MD_least_18 : decode b_MD_least 18 = .ok (.getfield 36, 3) := by decide +kernel
theorem d_MD_least_21 : decode b_MD_least 21 = .ok (.ifCond .ne 24, 3) := by decide +kernel
theorem d_MD_least_24 : decode b_MD_least 24 = .ok (.aload_n 0, 1) := by decide +kernel
theorem d_MD_least_25 : decode b_MD_least 25 = .ok (.getfield 7, 3) := by decide +kernel
theorem d_MD_least_28 : decode b_MD_least 28 = .ok (.iload_n 1, 1) := by decide +kernel
theorem d_MD_least_29 : decode b_MD_least 29 = .ok (.laload, 1) := by decide +kernel
theorem d_MD_least_30 : decode b_MD_least 30 = .ok (.iload_n 2, 1) := by decide +kernel
theorem d_MD_least_31 : decode b_MD_least 31 = .ok (.invokestatic 44, 3) := by decide +kernel
theorem d_MD_least_34 : decode b_MD_least 34 = .ok (.ifCond .eq 5, 3) := by decide +kernel
theorem d_MD_least_37 : decode b_MD_least 37 = .ok (.iload_n 2, 1) := by decide +kernel
theorem d_MD_least_38 : decode b_MD_least 38 = .ok (.ireturn, 1) := by decide +kernel
theorem d_MD_least_39 : decode b_MD_least 39 = .ok (.iinc 2 1, 3) := by decide +kernel
theorem d_MD_least_42 : decode b_MD_least 42 = .ok (.goto (-31), 3) := by decide +kernel
theorem d_MD_least_45 : decode b_MD_least 45 = .ok (.aload_n 0, 1) := by decide +kernel
theorem d_MD_least_46 : decode b_MD_least 46 = .ok (.getfield 36, 3) := by decide +kernel
theorem d_MD_least_49 : decode b_MD_least 49 = .ok (.ifCond .ne 7, 3) := by decide +kernel
theorem d_MD_least_52 : decode b_MD_least 52 = .ok (.iconst (-1), 1) := by decide +kernel
theorem d_MD_least_53 : decode b_MD_least 53 = .ok (.goto 4, 3) := by decide +kernel
theorem d_MD_least_56 : decode b_MD_least 56 = .ok (.iconst 0, 1) := by decide +kernel
theorem d_MD_least_57 : decode b_MD_least 57 = .ok (.ireturn, 1) := by decide +kernel
theorem d_MD_support_0 : decode b_MD_support 0 = .ok (.aload_n 0, 1) := by decide +kernel
theorem d_MD_support_1 : decode b_MD_support 1 = .ok (.aload_n 0, 1) := by decide +kernel
theorem d_MD_support_2 : decode b_MD_support 2 = .ok (.iload_n 1, 1) := by decide +kernel
theorem d_MD_support_3 : decode b_MD_support 3 = .ok (.invokevirtual 94, 3) := by decide +kernel
theorem d_MD_support_6 : decode b_MD_support 6 = .ok (.putfield 36, 3) := by decide +kernel
theorem d_MD_support_9 : decode b_MD_support 9 = .ok (.iconst 0, 1) := by decide +kernel
theorem d_MD_support_10 : decode b_MD_support 10 = .ok (.istore_n 2, 1) := by decide +kernel
theorem d_MD_support_11 : decode b_MD_support 11 = .ok (.iconst 0, 1) := by decide +kernel
theorem d_MD_support_12 : decode b_MD_support 12 = .ok (.istore_n 3, 1) := by decide +kernel
theorem d_MD_support_13 : decode b_MD_support 13 = .ok (.iload_n 3, 1) := by decide +kernel
theorem d_MD_support_14 : decode b_MD_support 14 = .ok (.bipush 6, 2) := by decide +kernel
theorem d_MD_support_16 : decode b_MD_support 16 = .ok (.if_icmp .ge 39, 3) := by decide +kernel
theorem d_MD_support_19 : decode b_MD_support 19 = .ok (.aload_n 0, 1) := by decide +kernel
theorem d_MD_support_20 : decode b_MD_support 20 = .ok (.getfield 36, 3) := by decide +kernel
theorem d_MD_support_23 : decode b_MD_support 23 = .ok (.ifCond .ne 32, 3) := by decide +kernel
theorem d_MD_support_26 : decode b_MD_support 26 = .ok (.aload_n 0, 1) := by decide +kernel
theorem d_MD_support_27 : decode b_MD_support 27 = .ok (.getfield 7, 3) := by decide +kernel
theorem d_MD_support_30 : decode b_MD_support 30 = .ok (.iload_n 1, 1) := by decide +kernel
theorem d_MD_support_31 : decode b_MD_support 31 = .ok (.laload, 1) := by decide +kernel
theorem d_MD_support_32 : decode b_MD_support 32 = .ok (.iload_n 3, 1) := by decide +kernel
theorem d_MD_support_33 : decode b_MD_support 33 = .ok (.invokestatic 97, 3) := by decide +kernel
theorem d_MD_support_36 : decode b_MD_support 36 = .ok (.ifCond .eq 11, 3) := by decide +kernel
theorem d_MD_support_39 : decode b_MD_support 39 = .ok (.iload_n 2, 1) := by decide +kernel
theorem d_MD_support_40 : decode b_MD_support 40 = .ok (.iconst 1, 1) := by decide +kernel
theorem d_MD_support_41 : decode b_MD_support 41 = .ok (.iload_n 3, 1) := by decide +kernel
theorem d_MD_support_42 : decode b_MD_support 42 = .ok (.ishl, 1) := by decide +kernel
theorem d_MD_support_43 : decode b_MD_support 43 = .ok (.ior, 1) := by decide +kernel
theorem d_MD_support_44 : decode b_MD_support 44 = .ok (.goto 4, 3) := by decide +kernel
theorem d_MD_support_47 : decode b_MD_support 47 = .ok (.iload_n 2, 1) := by decide +kernel
theorem d_MD_support_48 : decode b_MD_support 48 = .ok (.istore_n 2, 1) := by decide +kernel
theorem d_MD_support_49 : decode b_MD_support 49 = .ok (.iinc 3 1, 3) := by decide +kernel
theorem d_MD_support_52 : decode b_MD_support 52 = .ok (.goto (-39), 3) := by decide +kernel
theorem d_MD_support_55 : decode b_MD_support 55 = .ok (.iload_n 2, 1) := by decide +kernel
theorem d_MD_support_56 : decode b_MD_support 56 = .ok (.ireturn, 1) := by decide +kernel
theorem d_MD_depends_0 : decode b_MD_depends 0 = .ok (.lload_n 0, 1) := by decide +kernel
theorem d_MD_depends_1 : decode b_MD_depends 1 = .ok (.iload_n 2, 1) := by decide +kernel
theorem d_MD_depends_2 : decode b_MD_depends 2 = .ok (.lconst 0, 1) := by decide +kernel
theorem d_MD_depends_3 : decode b_MD_depends 3 = .ok (.invokestatic 48, 3) := by decide +kernel
theorem d_MD_depends_6 : decode b_MD_depends 6 = .ok (.lload_n 0, 1) := by decide +kernel
theorem d_MD_depends_7 : decode b_MD_depends 7 = .ok (.iload_n 2, 1) := by decide +kernel
theorem d_MD_depends_8 : decode b_MD_depends 8 = .ok (.ldc2_w 52, 3) := by decide +kernel
theorem d_MD_depends_11 : decode b_MD_depends 11 = .ok (.invokestatic 48, 3) := by decide +kernel
theorem d_MD_depends_14 : decode b_MD_depends 14 = .ok (.lcmp, 1) := by decide +kernel
theorem d_MD_depends_15 : decode b_MD_depends 15 = .ok (.ifCond .eq 7, 3) := by decide +kernel
theorem d_MD_depends_18 : decode b_MD_depends 18 = .ok (.iconst 1, 1) := by decide +kernel
theorem d_MD_depends_19 : decode b_MD_depends 19 = .ok (.goto 4, 3) := by decide +kernel
theorem d_MD_depends_22 : decode b_MD_depends 22 = .ok (.iconst 0, 1) := by decide +kernel
theorem d_MD_depends_23 : decode b_MD_depends 23 = .ok (.ireturn, 1) := by decide +kernel
theorem d_MD_size_0 : decode b_MD_size 0 = .ok (.aload_n 0, 1) := by decide +kernel
theorem d_MD_size_1 : decode b_MD_size 1 = .ok (.aload_n 0, 1) := by decide +kernel
theorem d_MD_size_2 : decode b_MD_size 2 = .ok (.iload_n 1, 1) := by decide +kernel
theorem d_MD_size_3 : decode b_MD_size 3 = .ok (.invokevirtual 94, 3) := by decide +kernel
theorem d_MD_size_6 : decode b_MD_size 6 = .ok (.putfield 36, 3) := by decide +kernel
theorem d_MD_size_9 : decode b_MD_size 9 = .ok (.iconst 0, 1) := by decide +kernel
theorem d_MD_size_10 : decode b_MD_size 10 = .ok (.istore_n 2, 1) := by decide +kernel
theorem d_MD_size_11 : decode b_MD_size 11 = .ok (.iconst 0, 1) := by decide +kernel
theorem d_MD_size_12 : decode b_MD_size 12 = .ok (.istore_n 3, 1) := by decide +kernel
theorem d_MD_size_13 : decode b_MD_size 13 = .ok (.iload_n 3, 1) := by decide +kernel
theorem d_MD_size_14 : decode b_MD_size 14 = .ok (.bipush 6, 2) := by decide +kernel
theorem d_MD_size_16 : decode b_MD_size 16 = .ok (.if_icmp .ge 39, 3) := by decide +kernel
theorem d_MD_size_19 : decode b_MD_size 19 = .ok (.aload_n 0, 1) := by decide +kernel
theorem d_MD_size_20 : decode b_MD_size 20 = .ok (.getfield 36, 3) := by decide +kernel
theorem d_MD_size_23 : decode b_MD_size 23 = .ok (.ifCond .ne 32, 3) := by decide +kernel
theorem d_MD_size_26 : decode b_MD_size 26 = .ok (.aload_n 0, 1) := by decide +kernel
theorem d_MD_size_27 : decode b_MD_size 27 = .ok (.iconst 0, 1) := by decide +kernel
theorem d_MD_size_28 : decode b_MD_size 28 = .ok (.putfield 100, 3) := by decide +kernel
theorem d_MD_size_31 : decode b_MD_size 31 = .ok (.aload_n 0, 1) := by decide +kernel
theorem d_MD_size_32 : decode b_MD_size 32 = .ok (.aload_n 0, 1) := by decide +kernel
theorem d_MD_size_33 : decode b_MD_size 33 = .ok (.getfield 7, 3) := by decide +kernel
theorem d_MD_size_36 : decode b_MD_size 36 = .ok (.iload_n 1, 1) := by decide +kernel
theorem d_MD_size_37 : decode b_MD_size 37 = .ok (.laload, 1) := by decide +kernel
theorem d_MD_size_38 : decode b_MD_size 38 = .ok (.iload_n 3, 1) := by decide +kernel
theorem d_MD_size_39 : decode b_MD_size 39 = .ok (.invokevirtual 106, 3) := by decide +kernel
theorem d_MD_size_42 : decode b_MD_size 42 = .ok (.iload_n 2, 1) := by decide +kernel
theorem d_MD_size_43 : decode b_MD_size 43 = .ok (.aload_n 0, 1) := by decide +kernel
theorem d_MD_size_44 : decode b_MD_size 44 = .ok (.getfield 100, 3) := by decide +kernel
theorem d_MD_size_47 : decode b_MD_size 47 = .ok (.iadd, 1) := by decide +kernel
theorem d_MD_size_48 : decode b_MD_size 48 = .ok (.istore_n 2, 1) := by decide +kernel
theorem d_MD_size_49 : decode b_MD_size 49 = .ok (.iinc 3 1, 3) := by decide +kernel
theorem d_MD_size_52 : decode b_MD_size 52 = .ok (.goto (-39), 3) := by decide +kernel
theorem d_MD_size_55 : decode b_MD_size 55 = .ok (.iload_n 2, 1) := by decide +kernel
theorem d_MD_size_56 : decode b_MD_size 56 = .ok (.ireturn, 1) := by decide +kernel
theorem d_MD_findAll_0 : decode b_MD_findAll 0 = .ok (.iconst 0, 1) := by decide +kernel
theorem d_MD_findAll_1 : decode b_MD_findAll 1 = .ok (.istore 4, 2) := by decide +kernel
theorem d_MD_findAll_3 : decode b_MD_findAll 3 = .ok (.iload 4, 2) := by decide +kernel
theorem d_MD_findAll_5 : decode b_MD_findAll 5 = .ok (.iconst 1, 1) := by decide +kernel
theorem d_MD_findAll_6 : decode b_MD_findAll 6 = .ok (.iload_n 3, 1) := by decide +kernel
theorem d_MD_findAll_7 : decode b_MD_findAll 7 = .ok (.ishl, 1) := by decide +kernel
theorem d_MD_findAll_8 : decode b_MD_findAll 8 = .ok (.if_icmp .ge 79, 3) := by decide +kernel
theorem d_MD_findAll_11 : decode b_MD_findAll 11 = .ok (.lload_n 1, 1) := by decide +kernel
theorem d_MD_findAll_12 : decode b_MD_findAll 12 = .ok (.lstore 5, 2) := by decide +kernel
theorem d_MD_findAll_14 : decode b_MD_findAll 14 = .ok (.iconst 0, 1) := by decide +kernel
theorem d_MD_findAll_15 : decode b_MD_findAll 15 = .ok (.istore 7, 2) := by decide +kernel
theorem d_MD_findAll_17 : decode b_MD_findAll 17 = .ok (.iload 7, 2) := by decide +kernel
theorem d_MD_findAll_19 : decode b_MD_findAll 19 = .ok (.iload_n 3, 1) := by decide +kernel
theorem d_MD_findAll_20 : decode b_MD_findAll 20 = .ok (.if_icmp .ge 41, 3) := by decide +kernel
theorem d_MD_findAll_23 : decode b_MD_findAll 23 = .ok (.lload 5, 2) := by decide +kernel
theorem d_MD_findAll_25 : decode b_MD_findAll 25 = .ok (.aload_n 0, 1) := by decide +kernel
theorem d_MD_findAll_26 : decode b_MD_findAll 26 = .ok (.getfield 17, 3) := by decide +kernel
theorem d_MD_findAll_29 : decode b_MD_findAll 29 = .ok (.iload 7, 2) := by decide +kernel
theorem d_MD_findAll_31 : decode b_MD_findAll 31 = .ok (.iaload, 1) := by decide +kernel
theorem d_MD_findAll_32 : decode b_MD_findAll 32 = .ok (.iload 4, 2) := by decide +kernel
theorem d_MD_findAll_34 : decode b_MD_findAll 34 = .ok (.iload 7, 2) := by decide +kernel
theorem d_MD_findAll_36 : decode b_MD_findAll 36 = .ok (.ishr, 1) := by decide +kernel
theorem d_MD_findAll_37 : decode b_MD_findAll 37 = .ok (.iconst 1, 1) := by decide +kernel
theorem d_MD_findAll_38 : decode b_MD_findAll 38 = .ok (.iand, 1) := by decide +kernel
theorem d_MD_findAll_39 : decode b_MD_findAll 39 = .ok (.iconst 1, 1) := by decide +kernel
theorem d_MD_findAll_40 : decode b_MD_findAll 40 = .ok (.if_icmp .ne 9, 3) := by decide +kernel
theorem d_MD_findAll_43 : decode b_MD_findAll 43 = .ok (.ldc2_w 52, 3) := by decide +kernel
theorem d_MD_findAll_46 : decode b_MD_findAll 46 = .ok (.goto 4, 3) := by decide +kernel
theorem d_MD_findAll_49 : decode b_MD_findAll 49 = .ok (.lconst 0, 1) := by decide +kernel
theorem d_MD_findAll_50 : decode b_MD_findAll 50 = .ok (.invokestatic 48, 3) := by decide +kernel
theorem d_MD_findAll_53 : decode b_MD_findAll 53 = .ok (.lstore 5, 2) := by decide +kernel
theorem d_MD_findAll_55 : decode b_MD_findAll 55 = .ok (.iinc 7 1, 3) := by decide +kernel
theorem d_MD_findAll_58 : decode b_MD_findAll 58 = .ok (.goto (-41), 3) := by decide +kernel
theorem d_MD_findAll_61 : decode b_MD_findAll 61 = .ok (.lload 5, 2) := by decide +kernel
theorem d_MD_findAll_63 : decode b_MD_findAll 63 = .ok (.aload_n 0, 1) := by decide +kernel
theorem d_MD_findAll_64 : decode b_MD_findAll 64 = .ok (.getfield 17, 3) := by decide +kernel
theorem d_MD_findAll_67 : decode b_MD_findAll 67 = .ok (.iload_n 3, 1) := by decide +kernel
theorem d_MD_findAll_68 : decode b_MD_findAll 68 = .ok (.iaload, 1) := by decide +kernel
theorem d_MD_findAll_69 : decode b_MD_findAll 69 = .ok (.invokestatic 97, 3) := by decide +kernel
theorem d_MD_findAll_72 : decode b_MD_findAll 72 = .ok (.ifCond .eq 9, 3) := by decide +kernel
theorem d_MD_findAll_75 : decode b_MD_findAll 75 = .ok (.aload_n 0, 1) := by decide +kernel
theorem d_MD_findAll_76 : decode b_MD_findAll 76 = .ok (.lload 5, 2) := by decide +kernel
theorem d_MD_findAll_78 : decode b_MD_findAll 78 = .ok (.invokevirtual 103, 3) := by decide +kernel
theorem d_MD_findAll_81 : decode b_MD_findAll 81 = .ok (.iinc 4 1, 3) := by decide +kernel
theorem d_MD_findAll_84 : decode b_MD_findAll 84 = .ok (.goto (-81), 3) := by decide +kernel
theorem d_MD_findAll_87 : decode b_MD_findAll 87 = .ok (.return_, 1) := by decide +kernel
theorem d_MD_find_0 : decode b_MD_find 0 = .ok (.iconst 0, 1) := by decide +kernel
theorem d_MD_find_1 : decode b_MD_find 1 = .ok (.istore_n 3, 1) := by decide +kernel
theorem d_MD_find_2 : decode b_MD_find 2 = .ok (.iload_n 3, 1) := by decide +kernel
theorem d_MD_find_3 : decode b_MD_find 3 = .ok (.aload_n 0, 1) := by decide +kernel
theorem d_MD_find_4 : decode b_MD_find 4 = .ok (.getfield 100, 3) := by decide +kernel
theorem d_MD_find_7 : decode b_MD_find 7 = .ok (.if_icmp .ge 21, 3) := by decide +kernel
theorem d_MD_find_10 : decode b_MD_find 10 = .ok (.aload_n 0, 1) := by decide +kernel
theorem d_MD_find_11 : decode b_MD_find 11 = .ok (.getfield 27, 3) := by decide +kernel
theorem d_MD_find_14 : decode b_MD_find 14 = .ok (.iload_n 3, 1) := by decide +kernel
theorem d_MD_find_15 : decode b_MD_find 15 = .ok (.laload, 1) := by decide +kernel
theorem d_MD_find_16 : decode b_MD_find 16 = .ok (.lload_n 1, 1) := by decide +kernel
theorem d_MD_find_17 : decode b_MD_find 17 = .ok (.lcmp, 1) := by decide +kernel
theorem d_MD_find_18 : decode b_MD_find 18 = .ok (.ifCond .ne 4, 3) := by decide +kernel
theorem d_MD_find_21 : decode b_MD_find 21 = .ok (.return_, 1) := by decide +kernel
theorem d_MD_find_22 : decode b_MD_find 22 = .ok (.iinc 3 1, 3) := by decide +kernel
theorem d_MD_find_25 : decode b_MD_find 25 = .ok (.goto (-23), 3) := by decide +kernel
theorem d_MD_find_28 : decode b_MD_find 28 = .ok (.aload_n 0, 1) := by decide +kernel
theorem d_MD_find_29 : decode b_MD_find 29 = .ok (.getfield 27, 3) := by decide +kernel
theorem d_MD_find_32 : decode b_MD_find 32 = .ok (.aload_n 0, 1) := by decide +kernel
theorem d_MD_find_33 : decode b_MD_find 33 = .ok (.getfield 100, 3) := by decide +kernel
theorem d_MD_find_36 : decode b_MD_find 36 = .ok (.lload_n 1, 1) := by decide +kernel
theorem d_MD_find_37 : decode b_MD_find 37 = .ok (.lastore, 1) := by decide +kernel
theorem d_MD_find_38 : decode b_MD_find 38 = .ok (.aload_n 0, 1) := by decide +kernel
theorem d_MD_find_39 : decode b_MD_find 39 = .ok (.dup, 1) := by decide +kernel
theorem d_MD_find_40 : decode b_MD_find 40 = .ok (.getfield 100, 3) := by decide +kernel
theorem d_MD_find_43 : decode b_MD_find 43 = .ok (.iconst 1, 1) := by decide +kernel
theorem d_MD_find_44 : decode b_MD_find 44 = .ok (.iadd, 1) := by decide +kernel
theorem d_MD_find_45 : decode b_MD_find 45 = .ok (.putfield 100, 3) := by decide +kernel
theorem d_MD_find_48 : decode b_MD_find 48 = .ok (.return_, 1) := by decide +kernel
theorem d_MD_shared_0 : decode b_MD_shared 0 = .ok (.aload_n 0, 1) := by decide +kernel
theorem d_MD_shared_1 : decode b_MD_shared 1 = .ok (.iconst 0, 1) := by decide +kernel
theorem d_MD_shared_2 : decode b_MD_shared 2 = .ok (.putfield 36, 3) := by decide +kernel
theorem d_MD_shared_5 : decode b_MD_shared 5 = .ok (.aload_n 0, 1) := by decide +kernel
theorem d_MD_shared_6 : decode b_MD_shared 6 = .ok (.invokevirtual 113, 3) := by decide +kernel
theorem d_MD_shared_9 : decode b_MD_shared 9 = .ok (.ireturn, 1) := by decide +kernel
theorem d_MD_all_0 : decode b_MD_all 0 = .ok (.iconst 0, 1) := by decide +kernel
theorem d_MD_all_1 : decode b_MD_all 1 = .ok (.istore_n 1, 1) := by decide +kernel
