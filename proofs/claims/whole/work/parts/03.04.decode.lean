theorem d_MD_set_12 : decode b_MD_set 12 = .ok (.invokestatic 40, 3) := by decide +kernel
theorem d_MD_set_15 : decode b_MD_set 15 = .ok (.ifCond .eq 7, 3) := by decide +kernel
theorem d_MD_set_18 : decode b_MD_set 18 = .ok (.iconst 0, 1) := by decide +kernel
theorem d_MD_set_19 : decode b_MD_set 19 = .ok (.goto 4, 3) := by decide +kernel
theorem d_MD_set_22 : decode b_MD_set 22 = .ok (.iconst 1, 1) := by decide +kernel
theorem d_MD_set_23 : decode b_MD_set 23 = .ok (.putfield 36, 3) := by decide +kernel
theorem d_MD_set_26 : decode b_MD_set 26 = .ok (.aload_n 0, 1) := by decide +kernel
theorem d_MD_set_27 : decode b_MD_set 27 = .ok (.getfield 36, 3) := by decide +kernel
theorem d_MD_set_30 : decode b_MD_set 30 = .ok (.ifCond .ne 41, 3) := by decide +kernel
theorem d_MD_set_33 : decode b_MD_set 33 = .ok (.iload_n 2, 1) := by decide +kernel
theorem d_MD_set_34 : decode b_MD_set 34 = .ok (.iconst 2, 1) := by decide +kernel
theorem d_MD_set_35 : decode b_MD_set 35 = .ok (.if_icmp .ge 7, 3) := by decide +kernel
theorem d_MD_set_38 : decode b_MD_set 38 = .ok (.lconst 0, 1) := by decide +kernel
theorem d_MD_set_39 : decode b_MD_set 39 = .ok (.goto 11, 3) := by decide +kernel
theorem d_MD_set_42 : decode b_MD_set 42 = .ok (.iload_n 2, 1) := by decide +kernel
theorem d_MD_set_43 : decode b_MD_set 43 = .ok (.iconst 2, 1) := by decide +kernel
theorem d_MD_set_44 : decode b_MD_set 44 = .ok (.isub, 1) := by decide +kernel
theorem d_MD_set_45 : decode b_MD_set 45 = .ok (.iconst 2, 1) := by decide +kernel
theorem d_MD_set_46 : decode b_MD_set 46 = .ok (.idiv, 1) := by decide +kernel
theorem d_MD_set_47 : decode b_MD_set 47 = .ok (.invokestatic 58, 3) := by decide +kernel
theorem d_MD_set_50 : decode b_MD_set 50 = .ok (.lstore_n 3, 1) := by decide +kernel
theorem d_MD_set_51 : decode b_MD_set 51 = .ok (.aload_n 0, 1) := by decide +kernel
theorem d_MD_set_52 : decode b_MD_set 52 = .ok (.iload_n 1, 1) := by decide +kernel
theorem d_MD_set_53 : decode b_MD_set 53 = .ok (.iload_n 2, 1) := by decide +kernel
theorem d_MD_set_54 : decode b_MD_set 54 = .ok (.iconst 2, 1) := by decide +kernel
theorem d_MD_set_55 : decode b_MD_set 55 = .ok (.irem, 1) := by decide +kernel
theorem d_MD_set_56 : decode b_MD_set 56 = .ok (.ifCond .ne 7, 3) := by decide +kernel
theorem d_MD_set_59 : decode b_MD_set 59 = .ok (.lload_n 3, 1) := by decide +kernel
theorem d_MD_set_60 : decode b_MD_set 60 = .ok (.goto 8, 3) := by decide +kernel
theorem d_MD_set_63 : decode b_MD_set 63 = .ok (.lload_n 3, 1) := by decide +kernel
theorem d_MD_set_64 : decode b_MD_set 64 = .ok (.ldc2_w 52, 3) := by decide +kernel
theorem d_MD_set_67 : decode b_MD_set 67 = .ok (.lxor, 1) := by decide +kernel
theorem d_MD_set_68 : decode b_MD_set 68 = .ok (.invokevirtual 62, 3) := by decide +kernel
theorem d_MD_set_71 : decode b_MD_set 71 = .ok (.return_, 1) := by decide +kernel
theorem d_MD_isRegister_0 : decode b_MD_isRegister 0 = .ok (.iload_n 0, 1) := by decide +kernel
theorem d_MD_isRegister_1 : decode b_MD_isRegister 1 = .ok (.iconst 0, 1) := by decide +kernel
theorem d_MD_isRegister_2 : decode b_MD_isRegister 2 = .ok (.bipush 7, 2) := by decide +kernel
theorem d_MD_isRegister_4 : decode b_MD_isRegister 4 = .ok (.invokestatic 40, 3) := by decide +kernel
theorem d_MD_isRegister_7 : decode b_MD_isRegister 7 = .ok (.ireturn, 1) := by decide +kernel
theorem d_MD_within_0 : decode b_MD_within 0 = .ok (.iload_n 0, 1) := by decide +kernel
theorem d_MD_within_1 : decode b_MD_within 1 = .ok (.iload_n 1, 1) := by decide +kernel
theorem d_MD_within_2 : decode b_MD_within 2 = .ok (.if_icmp .lt 12, 3) := by decide +kernel
theorem d_MD_within_5 : decode b_MD_within 5 = .ok (.iload_n 0, 1) := by decide +kernel
theorem d_MD_within_6 : decode b_MD_within 6 = .ok (.iload_n 2, 1) := by decide +kernel
theorem d_MD_within_7 : decode b_MD_within 7 = .ok (.if_icmp .gt 7, 3) := by decide +kernel
theorem d_MD_within_10 : decode b_MD_within 10 = .ok (.iconst 1, 1) := by decide +kernel
theorem d_MD_within_11 : decode b_MD_within 11 = .ok (.goto 4, 3) := by decide +kernel
theorem d_MD_within_14 : decode b_MD_within 14 = .ok (.iconst 0, 1) := by decide +kernel
theorem d_MD_within_15 : decode b_MD_within 15 = .ok (.ireturn, 1) := by decide +kernel
theorem d_MD_variableTable_0 : decode b_MD_variableTable 0 = .ok (.lconst 0, 1) := by decide +kernel
theorem d_MD_variableTable_1 : decode b_MD_variableTable 1 = .ok (.lstore_n 1, 1) := by decide +kernel
theorem d_MD_variableTable_2 : decode b_MD_variableTable 2 = .ok (.iconst 0, 1) := by decide +kernel
theorem d_MD_variableTable_3 : decode b_MD_variableTable 3 = .ok (.istore_n 3, 1) := by decide +kernel
theorem d_MD_variableTable_4 : decode b_MD_variableTable 4 = .ok (.iload_n 3, 1) := by decide +kernel
theorem d_MD_variableTable_5 : decode b_MD_variableTable 5 = .ok (.bipush 64, 2) := by decide +kernel
theorem d_MD_variableTable_7 : decode b_MD_variableTable 7 = .ok (.if_icmp .ge 30, 3) := by decide +kernel
theorem d_MD_variableTable_10 : decode b_MD_variableTable 10 = .ok (.iload_n 3, 1) := by decide +kernel
theorem d_MD_variableTable_11 : decode b_MD_variableTable 11 = .ok (.iconst 5, 1) := by decide +kernel
theorem d_MD_variableTable_12 : decode b_MD_variableTable 12 = .ok (.iload_n 0, 1) := by decide +kernel
theorem d_MD_variableTable_13 : decode b_MD_variableTable 13 = .ok (.isub, 1) := by decide +kernel
theorem d_MD_variableTable_14 : decode b_MD_variableTable 14 = .ok (.ishr, 1) := by decide +kernel
theorem d_MD_variableTable_15 : decode b_MD_variableTable 15 = .ok (.iconst 1, 1) := by decide +kernel
theorem d_MD_variableTable_16 : decode b_MD_variableTable 16 = .ok (.iand, 1) := by decide +kernel
theorem d_MD_variableTable_17 : decode b_MD_variableTable 17 = .ok (.iconst 1, 1) := by decide +kernel
theorem d_MD_variableTable_18 : decode b_MD_variableTable 18 = .ok (.if_icmp .ne 11, 3) := by decide +kernel
theorem d_MD_variableTable_21 : decode b_MD_variableTable 21 = .ok (.lload_n 1, 1) := by decide +kernel
theorem d_MD_variableTable_22 : decode b_MD_variableTable 22 = .ok (.lconst 1, 1) := by decide +kernel
theorem d_MD_variableTable_23 : decode b_MD_variableTable 23 = .ok (.iload_n 3, 1) := by decide +kernel
theorem d_MD_variableTable_24 : decode b_MD_variableTable 24 = .ok (.lshl, 1) := by decide +kernel
theorem d_MD_variableTable_25 : decode b_MD_variableTable 25 = .ok (.lor, 1) := by decide +kernel
theorem d_MD_variableTable_26 : decode b_MD_variableTable 26 = .ok (.goto 4, 3) := by decide +kernel
theorem d_MD_variableTable_29 : decode b_MD_variableTable 29 = .ok (.lload_n 1, 1) := by decide +kernel
theorem d_MD_variableTable_30 : decode b_MD_variableTable 30 = .ok (.lstore_n 1, 1) := by decide +kernel
theorem d_MD_variableTable_31 : decode b_MD_variableTable 31 = .ok (.iinc 3 1, 3) := by decide +kernel
theorem d_MD_variableTable_34 : decode b_MD_variableTable 34 = .ok (.goto (-30), 3) := by decide +kernel
theorem d_MD_variableTable_37 : decode b_MD_variableTable 37 = .ok (.lload_n 1, 1) := by decide +kernel
theorem d_MD_variableTable_38 : decode b_MD_variableTable 38 = .ok (.lreturn, 1) := by decide +kernel
theorem d_MD_put_0 : decode b_MD_put 0 = .ok (.aload_n 0, 1) := by decide +kernel
theorem d_MD_put_1 : decode b_MD_put 1 = .ok (.getfield 7, 3) := by decide +kernel
theorem d_MD_put_4 : decode b_MD_put 4 = .ok (.iload_n 1, 1) := by decide +kernel
theorem d_MD_put_5 : decode b_MD_put 5 = .ok (.lload_n 2, 1) := by decide +kernel
theorem d_MD_put_6 : decode b_MD_put 6 = .ok (.lastore, 1) := by decide +kernel
theorem d_MD_put_7 : decode b_MD_put 7 = .ok (.aload_n 0, 1) := by decide +kernel
theorem d_MD_put_8 : decode b_MD_put 8 = .ok (.getfield 13, 3) := by decide +kernel
theorem d_MD_put_11 : decode b_MD_put 11 = .ok (.iload_n 1, 1) := by decide +kernel
theorem d_MD_put_12 : decode b_MD_put 12 = .ok (.iconst 1, 1) := by decide +kernel
theorem d_MD_put_13 : decode b_MD_put 13 = .ok (.bastore, 1) := by decide +kernel
theorem d_MD_put_14 : decode b_MD_put 14 = .ok (.return_, 1) := by decide +kernel
theorem d_MD_apply_0 : decode b_MD_apply 0 = .ok (.iload_n 1, 1) := by decide +kernel
theorem d_MD_apply_1 : decode b_MD_apply 1 = .ok (.invokestatic 54, 3) := by decide +kernel
theorem d_MD_apply_4 : decode b_MD_apply 4 = .ok (.ifCond .eq 32, 3) := by decide +kernel
theorem d_MD_apply_7 : decode b_MD_apply 7 = .ok (.iload_n 2, 1) := by decide +kernel
theorem d_MD_apply_8 : decode b_MD_apply 8 = .ok (.invokestatic 54, 3) := by decide +kernel
theorem d_MD_apply_11 : decode b_MD_apply 11 = .ok (.ifCond .eq 25, 3) := by decide +kernel
theorem d_MD_apply_14 : decode b_MD_apply 14 = .ok (.iload_n 3, 1) := by decide +kernel
theorem d_MD_apply_15 : decode b_MD_apply 15 = .ok (.invokestatic 54, 3) := by decide +kernel
theorem d_MD_apply_18 : decode b_MD_apply 18 = .ok (.ifCond .eq 18, 3) := by decide +kernel
theorem d_MD_apply_21 : decode b_MD_apply 21 = .ok (.iload 4, 2) := by decide +kernel
theorem d_MD_apply_23 : decode b_MD_apply 23 = .ok (.iconst 0, 1) := by decide +kernel
theorem d_MD_apply_24 : decode b_MD_apply 24 = .ok (.bipush 15, 2) := by decide +kernel
theorem d_MD_apply_26 : decode b_MD_apply 26 = .ok (.invokestatic 40, 3) := by decide +kernel
theorem d_MD_apply_29 : decode b_MD_apply 29 = .ok (.ifCond .eq 7, 3) := by decide +kernel
theorem d_MD_apply_32 : decode b_MD_apply 32 = .ok (.iconst 1, 1) := by decide +kernel
theorem d_MD_apply_33 : decode b_MD_apply 33 = .ok (.goto 4, 3) := by decide +kernel
theorem d_MD_apply_36 : decode b_MD_apply 36 = .ok (.iconst 0, 1) := by decide +kernel
theorem d_MD_apply_37 : decode b_MD_apply 37 = .ok (.istore 5, 2) := by decide +kernel
theorem d_MD_apply_39 : decode b_MD_apply 39 = .ok (.aload_n 0, 1) := by decide +kernel
theorem d_MD_apply_40 : decode b_MD_apply 40 = .ok (.iload 5, 2) := by decide +kernel
theorem d_MD_apply_42 : decode b_MD_apply 42 = .ok (.ifCond .ne 7, 3) := by decide +kernel
theorem d_MD_apply_45 : decode b_MD_apply 45 = .ok (.iconst 1, 1) := by decide +kernel
theorem d_MD_apply_46 : decode b_MD_apply 46 = .ok (.goto 26, 3) := by decide +kernel
theorem d_MD_apply_49 : decode b_MD_apply 49 = .ok (.aload_n 0, 1) := by decide +kernel
theorem d_MD_apply_50 : decode b_MD_apply 50 = .ok (.getfield 13, 3) := by decide +kernel
theorem d_MD_apply_53 : decode b_MD_apply 53 = .ok (.iload_n 2, 1) := by decide +kernel
theorem d_MD_apply_54 : decode b_MD_apply 54 = .ok (.baload, 1) := by decide +kernel
theorem d_MD_apply_55 : decode b_MD_apply 55 = .ok (.ifCond .eq 16, 3) := by decide +kernel
theorem d_MD_apply_58 : decode b_MD_apply 58 = .ok (.aload_n 0, 1) := by decide +kernel
theorem d_MD_apply_59 : decode b_MD_apply 59 = .ok (.getfield 13, 3) := by decide +kernel
theorem d_MD_apply_62 : decode b_MD_apply 62 = .ok (.iload_n 3, 1) := by decide +kernel
theorem d_MD_apply_63 : decode b_MD_apply 63 = .ok (.baload, 1) := by decide +kernel
theorem d_MD_apply_64 : decode b_MD_apply 64 = .ok (.ifCond .eq 7, 3) := by decide +kernel
theorem d_MD_apply_67 : decode b_MD_apply 67 = .ok (.iconst 0, 1) := by decide +kernel
theorem d_MD_apply_68 : decode b_MD_apply 68 = .ok (.goto 4, 3) := by decide +kernel
theorem d_MD_apply_71 : decode b_MD_apply 71 = .ok (.iconst 2, 1) := by decide +kernel
theorem d_MD_apply_72 : decode b_MD_apply 72 = .ok (.putfield 36, 3) := by decide +kernel
theorem d_MD_apply_75 : decode b_MD_apply 75 = .ok (.aload_n 0, 1) := by decide +kernel
theorem d_MD_apply_76 : decode b_MD_apply 76 = .ok (.getfield 36, 3) := by decide +kernel
theorem d_MD_apply_79 : decode b_MD_apply 79 = .ok (.ifCond .le 4, 3) := by decide +kernel
theorem d_MD_apply_82 : decode b_MD_apply 82 = .ok (.return_, 1) := by decide +kernel
theorem d_MD_apply_83 : decode b_MD_apply 83 = .ok (.lconst 0, 1) := by decide +kernel
theorem d_MD_apply_84 : decode b_MD_apply 84 = .ok (.lstore 6, 2) := by decide +kernel
theorem d_MD_apply_86 : decode b_MD_apply 86 = .ok (.iconst 0, 1) := by decide +kernel
theorem d_MD_apply_87 : decode b_MD_apply 87 = .ok (.istore 8, 2) := by decide +kernel
theorem d_MD_apply_89 : decode b_MD_apply 89 = .ok (.iload 8, 2) := by decide +kernel
theorem d_MD_apply_91 : decode b_MD_apply 91 = .ok (.bipush 64, 2) := by decide +kernel
theorem d_MD_apply_93 : decode b_MD_apply 93 = .ok (.if_icmp .ge 75, 3) := by decide +kernel
theorem d_MD_apply_96 : decode b_MD_apply 96 = .ok (.aload_n 0, 1) := by decide +kernel
theorem d_MD_apply_97 : decode b_MD_apply 97 = .ok (.getfield 7, 3) := by decide +kernel
theorem d_MD_apply_100 : decode b_MD_apply 100 = .ok (.iload_n 2, 1) := by decide +kernel
theorem d_MD_apply_101 : decode b_MD_apply 101 = .ok (.laload, 1) := by decide +kernel
theorem d_MD_apply_102 : decode b_MD_apply 102 = .ok (.iload 8, 2) := by decide +kernel
theorem d_MD_apply_104 : decode b_MD_apply 104 = .ok (.invokestatic 44, 3) := by decide +kernel
theorem d_MD_apply_107 : decode b_MD_apply 107 = .ok (.ifCond .eq 7, 3) := by decide +kernel
theorem d_MD_apply_110 : decode b_MD_apply 110 = .ok (.iconst 2, 1) := by decide +kernel
theorem d_MD_apply_111 : decode b_MD_apply 111 = .ok (.goto 4, 3) := by decide +kernel
theorem d_MD_apply_114 : decode b_MD_apply 114 = .ok (.iconst 0, 1) := by decide +kernel
theorem d_MD_apply_115 : decode b_MD_apply 115 = .ok (.aload_n 0, 1) := by decide +kernel
theorem d_MD_apply_116 : decode b_MD_apply 116 = .ok (.getfield 7, 3) := by decide +kernel
theorem d_MD_apply_119 : decode b_MD_apply 119 = .ok (.iload_n 3, 1) := by decide +kernel
theorem d_MD_apply_120 : decode b_MD_apply 120 = .ok (.laload, 1) := by decide +kernel
theorem d_MD_apply_121 : decode b_MD_apply 121 = .ok (.iload 8, 2) := by decide +kernel
theorem d_MD_apply_123 : decode b_MD_apply 123 = .ok (.invokestatic 44, 3) := by decide +kernel
theorem d_MD_apply_126 : decode b_MD_apply 126 = .ok (.ifCond .eq 7, 3) := by decide +kernel
theorem d_MD_apply_129 : decode b_MD_apply 129 = .ok (.iconst 1, 1) := by decide +kernel
theorem d_MD_apply_130 : decode b_MD_apply 130 = .ok (.goto 4, 3) := by decide +kernel
theorem d_MD_apply_133 : decode b_MD_apply 133 = .ok (.iconst 0, 1) := by decide +kernel
theorem d_MD_apply_134 : decode b_MD_apply 134 = .ok (.iadd, 1) := by decide +kernel
theorem d_MD_apply_135 : decode b_MD_apply 135 = .ok (.istore 9, 2) := by decide +kernel
theorem d_MD_apply_137 : decode b_MD_apply 137 = .ok (.iload 4, 2) := by decide +kernel
theorem d_MD_apply_139 : decode b_MD_apply 139 = .ok (.iload 9, 2) := by decide +kernel
theorem d_MD_apply_141 : decode b_MD_apply 141 = .ok (.ishr, 1) := by decide +kernel
theorem d_MD_apply_142 : decode b_MD_apply 142 = .ok (.iconst 1, 1) := by decide +kernel
theorem d_MD_apply_143 : decode b_MD_apply 143 = .ok (.iand, 1) := by decide +kernel
theorem d_MD_apply_144 : decode b_MD_apply 144 = .ok (.iconst 1, 1) := by decide +kernel
theorem d_MD_apply_145 : decode b_MD_apply 145 = .ok (.if_icmp .ne 13, 3) := by decide +kernel
theorem d_MD_apply_148 : decode b_MD_apply 148 = .ok (.lload 6, 2) := by decide +kernel
theorem d_MD_apply_150 : decode b_MD_apply 150 = .ok (.lconst 1, 1) := by decide +kernel
theorem d_MD_apply_151 : decode b_MD_apply 151 = .ok (.iload 8, 2) := by decide +kernel
theorem d_MD_apply_153 : decode b_MD_apply 153 = .ok (.lshl, 1) := by decide +kernel
theorem d_MD_apply_154 : decode b_MD_apply 154 = .ok (.lor, 1) := by decide +kernel
theorem d_MD_apply_155 : decode b_MD_apply 155 = .ok (.goto 5, 3) := by decide +kernel
theorem d_MD_apply_158 : decode b_MD_apply 158 = .ok (.lload 6, 2) := by decide +kernel
theorem d_MD_apply_160 : decode b_MD_apply 160 = .ok (.lstore 6, 2) := by decide +kernel
theorem d_MD_apply_162 : decode b_MD_apply 162 = .ok (.iinc 8 1, 3) := by decide +kernel
theorem d_MD_apply_165 : decode b_MD_apply 165 = .ok (.goto (-76), 3) := by decide +kernel
theorem d_MD_apply_168 : decode b_MD_apply 168 = .ok (.aload_n 0, 1) := by decide +kernel
theorem d_MD_apply_169 : decode b_MD_apply 169 = .ok (.iload_n 1, 1) := by decide +kernel
theorem d_MD_apply_170 : decode b_MD_apply 170 = .ok (.lload 6, 2) := by decide +kernel
theorem d_MD_apply_172 : decode b_MD_apply 172 = .ok (.invokevirtual 62, 3) := by decide +kernel
theorem d_MD_apply_175 : decode b_MD_apply 175 = .ok (.return_, 1) := by decide +kernel
theorem d_MD_at_0 : decode b_MD_at 0 = .ok (.lload_n 0, 1) := by decide +kernel
theorem d_MD_at_1 : decode b_MD_at 1 = .ok (.iload_n 2, 1) := by decide +kernel
theorem d_MD_at_2 : decode b_MD_at 2 = .ok (.lshr, 1) := by decide +kernel
theorem d_MD_at_3 : decode b_MD_at 3 = .ok (.lconst 1, 1) := by decide +kernel
theorem d_MD_at_4 : decode b_MD_at 4 = .ok (.land, 1) := by decide +kernel
theorem d_MD_at_5 : decode b_MD_at 5 = .ok (.lconst 1, 1) := by decide +kernel
theorem d_MD_at_6 : decode b_MD_at 6 = .ok (.lcmp, 1) := by decide +kernel
theorem d_MD_at_7 : decode b_MD_at 7 = .ok (.ifCond .ne 7, 3) := by decide +kernel
theorem d_MD_at_10 : decode b_MD_at 10 = .ok (.iconst 1, 1) := by decide +kernel
theorem d_MD_at_11 : decode b_MD_at 11 = .ok (.goto 4, 3) := by decide +kernel
theorem d_MD_at_14 : decode b_MD_at 14 = .ok (.iconst 0, 1) := by decide +kernel
theorem d_MD_at_15 : decode b_MD_at 15 = .ok (.ireturn, 1) := by decide +kernel
theorem d_MD_choose_0 : decode b_MD_choose 0 = .ok (.iload_n 1, 1) := by decide +kernel
theorem d_MD_choose_1 : decode b_MD_choose 1 = .ok (.invokestatic 54, 3) := by decide +kernel
theorem d_MD_choose_4 : decode b_MD_choose 4 = .ok (.ifCond .eq 29, 3) := by decide +kernel
theorem d_MD_choose_7 : decode b_MD_choose 7 = .ok (.iload_n 2, 1) := by decide +kernel
theorem d_MD_choose_8 : decode b_MD_choose 8 = .ok (.invokestatic 54, 3) := by decide +kernel
theorem d_MD_choose_11 : decode b_MD_choose 11 = .ok (.ifCond .eq 22, 3) := by decide +kernel
theorem d_MD_choose_14 : decode b_MD_choose 14 = .ok (.iload_n 3, 1) := by decide +kernel
theorem d_MD_choose_15 : decode b_MD_choose 15 = .ok (.invokestatic 54, 3) := by decide +kernel
theorem d_MD_choose_18 : decode b_MD_choose 18 = .ok (.ifCond .eq 15, 3) := by decide +kernel
theorem d_MD_choose_21 : decode b_MD_choose 21 = .ok (.iload 4, 2) := by decide +kernel
theorem d_MD_choose_23 : decode b_MD_choose 23 = .ok (.invokestatic 54, 3) := by decide +kernel
theorem d_MD_choose_26 : decode b_MD_choose 26 = .ok (.ifCond .eq 7, 3) := by decide +kernel
theorem d_MD_choose_29 : decode b_MD_choose 29 = .ok (.iconst 1, 1) := by decide +kernel
theorem d_MD_choose_30 : decode b_MD_choose 30 = .ok (.goto 4, 3) := by decide +kernel
theorem d_MD_choose_33 : decode b_MD_choose 33 = .ok (.iconst 0, 1) := by decide +kernel
theorem d_MD_choose_34 : decode b_MD_choose 34 = .ok (.istore 5, 2) := by decide +kernel
theorem d_MD_choose_36 : decode b_MD_choose 36 = .ok (.aload_n 0, 1) := by decide +kernel
theorem d_MD_choose_37 : decode b_MD_choose 37 = .ok (.iload 5, 2) := by decide +kernel
theorem d_MD_choose_39 : decode b_MD_choose 39 = .ok (.ifCond .ne 7, 3) := by decide +kernel
theorem d_MD_choose_42 : decode b_MD_choose 42 = .ok (.iconst 1, 1) := by decide +kernel
theorem d_MD_choose_43 : decode b_MD_choose 43 = .ok (.goto 36, 3) := by decide +kernel
theorem d_MD_choose_46 : decode b_MD_choose 46 = .ok (.aload_n 0, 1) := by decide +kernel
theorem d_MD_choose_47 : decode b_MD_choose 47 = .ok (.getfield 13, 3) := by decide +kernel
theorem d_MD_choose_50 : decode b_MD_choose 50 = .ok (.iload_n 2, 1) := by decide +kernel
theorem d_MD_choose_51 : decode b_MD_choose 51 = .ok (.baload, 1) := by decide +kernel
theorem d_MD_choose_52 : decode b_MD_choose 52 = .ok (.ifCond .eq 26, 3) := by decide +kernel
theorem d_MD_choose_55 : decode b_MD_choose 55 = .ok (.aload_n 0, 1) := by decide +kernel
theorem d_MD_choose_56 : decode b_MD_choose 56 = .ok (.getfield 13, 3) := by decide +kernel
theorem d_MD_choose_59 : decode b_MD_choose 59 = .ok (.iload_n 3, 1) := by decide +kernel
theorem d_MD_choose_60 : decode b_MD_choose 60 = .ok (.baload, 1) := by decide +kernel
theorem d_MD_choose_61 : decode b_MD_choose 61 = .ok (.ifCond .eq 17, 3) := by decide +kernel
theorem d_MD_choose_64 : decode b_MD_choose 64 = .ok (.aload_n 0, 1) := by decide +kernel
theorem d_MD_choose_65 : decode b_MD_choose 65 = .ok (.getfield 13, 3) := by decide +kernel
theorem d_MD_choose_68 : decode b_MD_choose 68 = .ok (.iload 4, 2) := by decide +kernel
theorem d_MD_choose_70 : decode b_MD_choose 70 = .ok (.baload, 1) := by decide +kernel
theorem d_MD_choose_71 : decode b_MD_choose 71 = .ok (.ifCond .eq 7, 3) := by decide +kernel
theorem d_MD_choose_74 : decode b_MD_choose 74 = .ok (.iconst 0, 1) := by decide +kernel
theorem d_MD_choose_75 : decode b_MD_choose 75 = .ok (.goto 4, 3) := by decide +kernel
theorem d_MD_choose_78 : decode b_MD_choose 78 = .ok (.iconst 2, 1) := by decide +kernel
theorem d_MD_choose_79 : decode b_MD_choose 79 = .ok (.putfield 36, 3) := by decide +kernel
theorem d_MD_choose_82 : decode b_MD_choose 82 = .ok (.aload_n 0, 1) := by decide +kernel
theorem d_MD_choose_83 : decode b_MD_choose 83 = .ok (.getfield 36, 3) := by decide +kernel
theorem d_MD_choose_86 : decode b_MD_choose 86 = .ok (.ifCond .ne 40, 3) := by decide +kernel
theorem d_MD_choose_89 : decode b_MD_choose 89 = .ok (.aload_n 0, 1) := by decide +kernel
theorem d_MD_choose_90 : decode b_MD_choose 90 = .ok (.iload_n 1, 1) := by decide +kernel
theorem d_MD_choose_91 : decode b_MD_choose 91 = .ok (.aload_n 0, 1) := by decide +kernel
theorem d_MD_choose_92 : decode b_MD_choose 92 = .ok (.getfield 7, 3) := by decide +kernel
theorem d_MD_choose_95 : decode b_MD_choose 95 = .ok (.iload_n 2, 1) := by decide +kernel
theorem d_MD_choose_96 : decode b_MD_choose 96 = .ok (.laload, 1) := by decide +kernel
theorem d_MD_choose_97 : decode b_MD_choose 97 = .ok (.aload_n 0, 1) := by decide +kernel
theorem d_MD_choose_98 : decode b_MD_choose 98 = .ok (.getfield 7, 3) := by decide +kernel
theorem d_MD_choose_101 : decode b_MD_choose 101 = .ok (.iload_n 3, 1) := by decide +kernel
theorem d_MD_choose_102 : decode b_MD_choose 102 = .ok (.laload, 1) := by decide +kernel
theorem d_MD_choose_103 : decode b_MD_choose 103 = .ok (.land, 1) := by decide +kernel
theorem d_MD_choose_104 : decode b_MD_choose 104 = .ok (.aload_n 0, 1) := by decide +kernel
theorem d_MD_choose_105 : decode b_MD_choose 105 = .ok (.getfield 7, 3) := by decide +kernel
theorem d_MD_choose_108 : decode b_MD_choose 108 = .ok (.iload_n 2, 1) := by decide +kernel
theorem d_MD_choose_109 : decode b_MD_choose 109 = .ok (.laload, 1) := by decide +kernel
theorem d_MD_choose_110 : decode b_MD_choose 110 = .ok (.ldc2_w 52, 3) := by decide +kernel
theorem d_MD_choose_113 : decode b_MD_choose 113 = .ok (.lxor, 1) := by decide +kernel
theorem d_MD_choose_114 : decode b_MD_choose 114 = .ok (.aload_n 0, 1) := by decide +kernel
theorem d_MD_choose_115 : decode b_MD_choose 115 = .ok (.getfield 7, 3) := by decide +kernel
theorem d_MD_choose_118 : decode b_MD_choose 118 = .ok (.iload 4, 2) := by decide +kernel
theorem d_MD_choose_120 : decode b_MD_choose 120 = .ok (.laload, 1) := by decide +kernel
theorem d_MD_choose_121 : decode b_MD_choose 121 = .ok (.land, 1) := by decide +kernel
theorem d_MD_choose_122 : decode b_MD_choose 122 = .ok (.lor, 1) := by decide +kernel
theorem d_MD_choose_123 : decode b_MD_choose 123 = .ok (.invokevirtual 62, 3) := by decide +kernel
theorem d_MD_choose_126 : decode b_MD_choose 126 = .ok (.return_, 1) := by decide +kernel
theorem d_MD_restrict_0 : decode b_MD_restrict 0 = .ok (.iload_n 1, 1) := by decide +kernel
theorem d_MD_restrict_1 : decode b_MD_restrict 1 = .ok (.invokestatic 54, 3) := by decide +kernel
theorem d_MD_restrict_4 : decode b_MD_restrict 4 = .ok (.ifCond .eq 23, 3) := by decide +kernel
theorem d_MD_restrict_7 : decode b_MD_restrict 7 = .ok (.iload_n 2, 1) := by decide +kernel
theorem d_MD_restrict_8 : decode b_MD_restrict 8 = .ok (.invokestatic 54, 3) := by decide +kernel
theorem d_MD_restrict_11 : decode b_MD_restrict 11 = .ok (.ifCond .eq 16, 3) := by decide +kernel
theorem d_MD_restrict_14 : decode b_MD_restrict 14 = .ok (.iload_n 3, 1) := by decide +kernel
theorem d_MD_restrict_15 : decode b_MD_restrict 15 = .ok (.iconst 0, 1) := by decide +kernel
theorem d_MD_restrict_16 : decode b_MD_restrict 16 = .ok (.iconst 5, 1) := by decide +kernel
theorem d_MD_restrict_17 : decode b_MD_restrict 17 = .ok (.invokestatic 40, 3) := by decide +kernel
theorem d_MD_restrict_20 : decode b_MD_restrict 20 = .ok (.ifCond .eq 7, 3) := by decide +kernel
theorem d_MD_restrict_23 : decode b_MD_restrict 23 = .ok (.iconst 1, 1) := by decide +kernel
theorem d_MD_restrict_24 : decode b_MD_restrict 24 = .ok (.goto 4, 3) := by decide +kernel
theorem d_MD_restrict_27 : decode b_MD_restrict 27 = .ok (.iconst 0, 1) := by decide +kernel
theorem d_MD_restrict_28 : decode b_MD_restrict 28 = .ok (.istore 5, 2) := by decide +kernel
theorem d_MD_restrict_30 : decode b_MD_restrict 30 = .ok (.aload_n 0, 1) := by decide +kernel
theorem d_MD_restrict_31 : decode b_MD_restrict 31 = .ok (.iload 5, 2) := by decide +kernel
theorem d_MD_restrict_33 : decode b_MD_restrict 33 = .ok (.ifCond .ne 7, 3) := by decide +kernel
theorem d_MD_restrict_36 : decode b_MD_restrict 36 = .ok (.iconst 1, 1) := by decide +kernel
theorem d_MD_restrict_37 : decode b_MD_restrict 37 = .ok (.goto 17, 3) := by decide +kernel
theorem d_MD_restrict_40 : decode b_MD_restrict 40 = .ok (.aload_n 0, 1) := by decide +kernel
theorem d_MD_restrict_41 : decode b_MD_restrict 41 = .ok (.getfield 13, 3) := by decide +kernel
theorem d_MD_restrict_44 : decode b_MD_restrict 44 = .ok (.iload_n 2, 1) := by decide +kernel
theorem d_MD_restrict_45 : decode b_MD_restrict 45 = .ok (.baload, 1) := by decide +kernel
theorem d_MD_restrict_46 : decode b_MD_restrict 46 = .ok (.ifCond .eq 7, 3) := by decide +kernel
theorem d_MD_restrict_49 : decode b_MD_restrict 49 = .ok (.iconst 0, 1) := by decide +kernel
theorem d_MD_restrict_50 : decode b_MD_restrict 50 = .ok (.goto 4, 3) := by decide +kernel
theorem d_MD_restrict_53 : decode b_MD_restrict 53 = .ok (.iconst 2, 1) := by decide +kernel
theorem d_MD_restrict_54 : decode b_MD_restrict 54 = .ok (.putfield 36, 3) := by decide +kernel
theorem d_MD_restrict_57 : decode b_MD_restrict 57 = .ok (.aload_n 0, 1) := by decide +kernel
theorem d_MD_restrict_58 : decode b_MD_restrict 58 = .ok (.getfield 36, 3) := by decide +kernel
theorem d_MD_restrict_61 : decode b_MD_restrict 61 = .ok (.ifCond .ne 30, 3) := by decide +kernel
theorem d_MD_restrict_64 : decode b_MD_restrict 64 = .ok (.aload_n 0, 1) := by decide +kernel
theorem d_MD_restrict_65 : decode b_MD_restrict 65 = .ok (.iload_n 1, 1) := by decide +kernel
theorem d_MD_restrict_66 : decode b_MD_restrict 66 = .ok (.aload_n 0, 1) := by decide +kernel
theorem d_MD_restrict_67 : decode b_MD_restrict 67 = .ok (.getfield 7, 3) := by decide +kernel
theorem d_MD_restrict_70 : decode b_MD_restrict 70 = .ok (.iload_n 2, 1) := by decide +kernel
theorem d_MD_restrict_71 : decode b_MD_restrict 71 = .ok (.laload, 1) := by decide +kernel
theorem d_MD_restrict_72 : decode b_MD_restrict 72 = .ok (.iload_n 3, 1) := by decide +kernel
theorem d_MD_restrict_73 : decode b_MD_restrict 73 = .ok (.iload 4, 2) := by decide +kernel
theorem d_MD_restrict_75 : decode b_MD_restrict 75 = .ok (.ifCond .eq 9, 3) := by decide +kernel
theorem d_MD_restrict_78 : decode b_MD_restrict 78 = .ok (.ldc2_w 52, 3) := by decide +kernel
theorem d_MD_restrict_81 : decode b_MD_restrict 81 = .ok (.goto 4, 3) := by decide +kernel
theorem d_MD_restrict_84 : decode b_MD_restrict 84 = .ok (.lconst 0, 1) := by decide +kernel
theorem d_MD_restrict_85 : decode b_MD_restrict 85 = .ok (.invokestatic 48, 3) := by decide +kernel
theorem d_MD_restrict_88 : decode b_MD_restrict 88 = .ok (.invokevirtual 62, 3) := by decide +kernel
theorem d_MD_restrict_91 : decode b_MD_restrict 91 = .ok (.return_, 1) := by decide +kernel
theorem d_MD_with_0 : decode b_MD_with 0 = .ok (.lconst 0, 1) := by decide +kernel
theorem d_MD_with_1 : decode b_MD_with 1 = .ok (.lstore 5, 2) := by decide +kernel
theorem d_MD_with_3 : decode b_MD_with 3 = .ok (.iconst 1, 1) := by decide +kernel
theorem d_MD_with_4 : decode b_MD_with 4 = .ok (.iconst 5, 1) := by decide +kernel
theorem d_MD_with_5 : decode b_MD_with 5 = .ok (.iload_n 2, 1) := by decide +kernel
theorem d_MD_with_6 : decode b_MD_with 6 = .ok (.isub, 1) := by decide +kernel
theorem d_MD_with_7 : decode b_MD_with 7 = .ok (.ishl, 1) := by decide +kernel
theorem d_MD_with_8 : decode b_MD_with 8 = .ok (.istore 7, 2) := by decide +kernel
theorem d_MD_with_10 : decode b_MD_with 10 = .ok (.iconst 0, 1) := by decide +kernel
theorem d_MD_with_11 : decode b_MD_with 11 = .ok (.istore 8, 2) := by decide +kernel
theorem d_MD_with_13 : decode b_MD_with 13 = .ok (.iload 8, 2) := by decide +kernel
theorem d_MD_with_15 : decode b_MD_with 15 = .ok (.bipush 64, 2) := by decide +kernel
theorem d_MD_with_17 : decode b_MD_with 17 = .ok (.if_icmp .ge 58, 3) := by decide +kernel
theorem d_MD_with_20 : decode b_MD_with 20 = .ok (.lload_n 3, 1) := by decide +kernel
theorem d_MD_with_21 : decode b_MD_with 21 = .ok (.iload 8, 2) := by decide +kernel
theorem d_MD_with_23 : decode b_MD_with 23 = .ok (.invokestatic 44, 3) := by decide +kernel
theorem d_MD_with_26 : decode b_MD_with 26 = .ok (.ifCond .eq 11, 3) := by decide +kernel
theorem d_MD_with_29 : decode b_MD_with 29 = .ok (.iload 8, 2) := by decide +kernel
theorem d_MD_with_31 : decode b_MD_with 31 = .ok (.iload 7, 2) := by decide +kernel
theorem d_MD_with_33 : decode b_MD_with 33 = .ok (.ior, 1) := by decide +kernel
theorem d_MD_with_34 : decode b_MD_with 34 = .ok (.goto 10, 3) := by decide +kernel
theorem d_MD_with_37 : decode b_MD_with 37 = .ok (.iload 8, 2) := by decide +kernel
theorem d_MD_with_39 : decode b_MD_with 39 = .ok (.iload 7, 2) := by decide +kernel
theorem d_MD_with_41 : decode b_MD_with 41 = .ok (.iconst (-1), 1) := by decide +kernel
theorem d_MD_with_42 : decode b_MD_with 42 = .ok (.ixor, 1) := by decide +kernel
theorem d_MD_with_43 : decode b_MD_with 43 = .ok (.iand, 1) := by decide +kernel
theorem d_MD_with_44 : decode b_MD_with 44 = .ok (.istore 9, 2) := by decide +kernel
theorem d_MD_with_46 : decode b_MD_with 46 = .ok (.lload_n 0, 1) := by decide +kernel
theorem d_MD_with_47 : decode b_MD_with 47 = .ok (.iload 9, 2) := by decide +kernel
theorem d_MD_with_49 : decode b_MD_with 49 = .ok (.invokestatic 44, 3) := by decide +kernel
theorem d_MD_with_52 : decode b_MD_with 52 = .ok (.ifCond .eq 13, 3) := by decide +kernel
theorem d_MD_with_55 : decode b_MD_with 55 = .ok (.lload 5, 2) := by decide +kernel
theorem d_MD_with_57 : decode b_MD_with 57 = .ok (.lconst 1, 1) := by decide +kernel
theorem d_MD_with_58 : decode b_MD_with 58 = .ok (.iload 8, 2) := by decide +kernel
theorem d_MD_with_60 : decode b_MD_with 60 = .ok (.lshl, 1) := by decide +kernel
theorem d_MD_with_61 : decode b_MD_with 61 = .ok (.lor, 1) := by decide +kernel
theorem d_MD_with_62 : decode b_MD_with 62 = .ok (.goto 5, 3) := by decide +kernel
theorem d_MD_with_65 : decode b_MD_with 65 = .ok (.lload 5, 2) := by decide +kernel
theorem d_MD_with_67 : decode b_MD_with 67 = .ok (.lstore 5, 2) := by decide +kernel
theorem d_MD_with_69 : decode b_MD_with 69 = .ok (.iinc 8 1, 3) := by decide +kernel
theorem d_MD_with_72 : decode b_MD_with 72 = .ok (.goto (-59), 3) := by decide +kernel
theorem d_MD_with_75 : decode b_MD_with 75 = .ok (.lload 5, 2) := by decide +kernel
theorem d_MD_with_77 : decode b_MD_with 77 = .ok (.lreturn, 1) := by decide +kernel
theorem d_MD_compose_0 : decode b_MD_compose 0 = .ok (.iload_n 1, 1) := by decide +kernel
theorem d_MD_compose_1 : decode b_MD_compose 1 = .ok (.invokestatic 54, 3) := by decide +kernel
theorem d_MD_compose_4 : decode b_MD_compose 4 = .ok (.ifCond .eq 31, 3) := by decide +kernel
theorem d_MD_compose_7 : decode b_MD_compose 7 = .ok (.iload_n 2, 1) := by decide +kernel
theorem d_MD_compose_8 : decode b_MD_compose 8 = .ok (.invokestatic 54, 3) := by decide +kernel
theorem d_MD_compose_11 : decode b_MD_compose 11 = .ok (.ifCond .eq 24, 3) := by decide +kernel
theorem d_MD_compose_14 : decode b_MD_compose 14 = .ok (.iload_n 3, 1) := by decide +kernel
theorem d_MD_compose_15 : decode b_MD_compose 15 = .ok (.iconst 0, 1) := by decide +kernel
theorem d_MD_compose_16 : decode b_MD_compose 16 = .ok (.iconst 5, 1) := by decide +kernel
theorem d_MD_compose_17 : decode b_MD_compose 17 = .ok (.invokestatic 40, 3) := by decide +kernel
theorem d_MD_compose_20 : decode b_MD_compose 20 = .ok (.ifCond .eq 15, 3) := by decide +kernel
theorem d_MD_compose_23 : decode b_MD_compose 23 = .ok (.iload 4, 2) := by decide +kernel
theorem d_MD_compose_25 : decode b_MD_compose 25 = .ok (.invokestatic 54, 3) := by decide +kernel
theorem d_MD_compose_28 : decode b_MD_compose 28 = .ok (.ifCond .eq 7, 3) := by decide +kernel
theorem d_MD_compose_31 : decode b_MD_compose 31 = .ok (.iconst 1, 1) := by decide +kernel
theorem d_MD_compose_32 : decode b_MD_compose 32 = .ok (.goto 4, 3) := by decide +kernel
theorem d_MD_compose_35 : decode b_MD_compose 35 = .ok (.iconst 0, 1) := by decide +kernel
theorem d_MD_compose_36 : decode b_MD_compose 36 = .ok (.istore 5, 2) := by decide +kernel
theorem d_MD_compose_38 : decode b_MD_compose 38 = .ok (.aload_n 0, 1) := by decide +kernel
theorem d_MD_compose_39 : decode b_MD_compose 39 = .ok (.iload 5, 2) := by decide +kernel
theorem d_MD_compose_41 : decode b_MD_compose 41 = .ok (.ifCond .ne 7, 3) := by decide +kernel
theorem d_MD_compose_44 : decode b_MD_compose 44 = .ok (.iconst 1, 1) := by decide +kernel
theorem d_MD_compose_45 : decode b_MD_compose 45 = .ok (.goto 27, 3) := by decide +kernel
theorem d_MD_compose_48 : decode b_MD_compose 48 = .ok (.aload_n 0, 1) := by decide +kernel
theorem d_MD_compose_49 : decode b_MD_compose 49 = .ok (.getfield 13, 3) := by decide +kernel
theorem d_MD_compose_52 : decode b_MD_compose 52 = .ok (.iload_n 2, 1) := by decide +kernel
theorem d_MD_compose_53 : decode b_MD_compose 53 = .ok (.baload, 1) := by decide +kernel
theorem d_MD_compose_54 : decode b_MD_compose 54 = .ok (.ifCond .eq 17, 3) := by decide +kernel
theorem d_MD_compose_57 : decode b_MD_compose 57 = .ok (.aload_n 0, 1) := by decide +kernel
theorem d_MD_compose_58 : decode b_MD_compose 58 = .ok (.getfield 13, 3) := by decide +kernel
theorem d_MD_compose_61 : decode b_MD_compose 61 = .ok (.iload 4, 2) := by decide +kernel
theorem d_MD_compose_63 : decode b_MD_compose 63 = .ok (.baload, 1) := by decide +kernel
theorem d_MD_compose_64 : decode b_MD_compose 64 = .ok (.ifCond .eq 7, 3) := by decide +kernel
theorem d_MD_compose_67 : decode b_MD_compose 67 = .ok (.iconst 0, 1) := by decide +kernel
theorem d_MD_compose_68 : decode b_MD_compose 68 = .ok (.goto 4, 3) := by decide +kernel
theorem d_MD_compose_71 : decode b_MD_compose 71 = .ok (.iconst 2, 1) := by decide +kernel
theorem d_MD_compose_72 : decode b_MD_compose 72 = .ok (.putfield 36, 3) := by decide +kernel
theorem d_MD_compose_75 : decode b_MD_compose 75 = .ok (.aload_n 0, 1) := by decide +kernel
theorem d_MD_compose_76 : decode b_MD_compose 76 = .ok (.getfield 36, 3) := by decide +kernel
theorem d_MD_compose_79 : decode b_MD_compose 79 = .ok (.ifCond .ne 25, 3) := by decide +kernel
theorem d_MD_compose_82 : decode b_MD_compose 82 = .ok (.aload_n 0, 1) := by decide +kernel
theorem d_MD_compose_83 : decode b_MD_compose 83 = .ok (.iload_n 1, 1) := by decide +kernel
theorem d_MD_compose_84 : decode b_MD_compose 84 = .ok (.aload_n 0, 1) := by decide +kernel
theorem d_MD_compose_85 : decode b_MD_compose 85 = .ok (.getfield 7, 3) := by decide +kernel
theorem d_MD_compose_88 : decode b_MD_compose 88 = .ok (.iload_n 2, 1) := by decide +kernel
theorem d_MD_compose_89 : decode b_MD_compose 89 = .ok (.laload, 1) := by decide +kernel
theorem d_MD_compose_90 : decode b_MD_compose 90 = .ok (.iload_n 3, 1) := by decide +kernel
theorem d_MD_compose_91 : decode b_MD_compose 91 = .ok (.aload_n 0, 1) := by decide +kernel
theorem d_MD_compose_92 : decode b_MD_compose 92 = .ok (.getfield 7, 3) := by decide +kernel
theorem d_MD_compose_95 : decode b_MD_compose 95 = .ok (.iload 4, 2) := by decide +kernel
