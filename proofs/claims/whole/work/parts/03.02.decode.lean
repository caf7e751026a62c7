theorem d_FR_failurePlace_71 : decode b_FR_failurePlace 71 = .ok (.getfield 24, 3) := by decide +kernel
theorem d_FR_failurePlace_74 : decode b_FR_failurePlace 74 = .ok (.ifCond .le 7, 3) := by decide +kernel
theorem d_FR_failurePlace_77 : decode b_FR_failurePlace 77 = .ok (.iload_n 2, 1) := by decide +kernel
theorem d_FR_failurePlace_78 : decode b_FR_failurePlace 78 = .ok (.goto 4, 3) := by decide +kernel
theorem d_FR_failurePlace_81 : decode b_FR_failurePlace 81 = .ok (.iconst (-1), 1) := by decide +kernel
theorem d_FR_failurePlace_82 : decode b_FR_failurePlace 82 = .ok (.ireturn, 1) := by decide +kernel
theorem d_FR_beginFormula_0 : decode b_FR_beginFormula 0 = .ok (.aload_n 0, 1) := by decide +kernel
theorem d_FR_beginFormula_1 : decode b_FR_beginFormula 1 = .ok (.getfield 11, 3) := by decide +kernel
theorem d_FR_beginFormula_4 : decode b_FR_beginFormula 4 = .ok (.aload_n 0, 1) := by decide +kernel
theorem d_FR_beginFormula_5 : decode b_FR_beginFormula 5 = .ok (.getfield 24, 3) := by decide +kernel
theorem d_FR_beginFormula_8 : decode b_FR_beginFormula 8 = .ok (.lconst 0, 1) := by decide +kernel
theorem d_FR_beginFormula_9 : decode b_FR_beginFormula 9 = .ok (.lastore, 1) := by decide +kernel
theorem d_FR_beginFormula_10 : decode b_FR_beginFormula 10 = .ok (.aload_n 0, 1) := by decide +kernel
theorem d_FR_beginFormula_11 : decode b_FR_beginFormula 11 = .ok (.getfield 15, 3) := by decide +kernel
theorem d_FR_beginFormula_14 : decode b_FR_beginFormula 14 = .ok (.aload_n 0, 1) := by decide +kernel
theorem d_FR_beginFormula_15 : decode b_FR_beginFormula 15 = .ok (.getfield 24, 3) := by decide +kernel
theorem d_FR_beginFormula_18 : decode b_FR_beginFormula 18 = .ok (.lconst 0, 1) := by decide +kernel
theorem d_FR_beginFormula_19 : decode b_FR_beginFormula 19 = .ok (.lastore, 1) := by decide +kernel
theorem d_FR_beginFormula_20 : decode b_FR_beginFormula 20 = .ok (.aload_n 0, 1) := by decide +kernel
theorem d_FR_beginFormula_21 : decode b_FR_beginFormula 21 = .ok (.getfield 18, 3) := by decide +kernel
theorem d_FR_beginFormula_24 : decode b_FR_beginFormula 24 = .ok (.aload_n 0, 1) := by decide +kernel
theorem d_FR_beginFormula_25 : decode b_FR_beginFormula 25 = .ok (.getfield 24, 3) := by decide +kernel
theorem d_FR_beginFormula_28 : decode b_FR_beginFormula 28 = .ok (.ldc2_w 45, 3) := by decide +kernel
theorem d_FR_beginFormula_31 : decode b_FR_beginFormula 31 = .ok (.lastore, 1) := by decide +kernel
theorem d_FR_beginFormula_32 : decode b_FR_beginFormula 32 = .ok (.aload_n 0, 1) := by decide +kernel
theorem d_FR_beginFormula_33 : decode b_FR_beginFormula 33 = .ok (.invokevirtual 47, 3) := by decide +kernel
theorem d_FR_beginFormula_36 : decode b_FR_beginFormula 36 = .ok (.return_, 1) := by decide +kernel
theorem d_FR_beginFactor_0 : decode b_FR_beginFactor 0 = .ok (.aload_n 0, 1) := by decide +kernel
theorem d_FR_beginFactor_1 : decode b_FR_beginFactor 1 = .ok (.getfield 21, 3) := by decide +kernel
theorem d_FR_beginFactor_4 : decode b_FR_beginFactor 4 = .ok (.aload_n 0, 1) := by decide +kernel
theorem d_FR_beginFactor_5 : decode b_FR_beginFactor 5 = .ok (.getfield 24, 3) := by decide +kernel
theorem d_FR_beginFactor_8 : decode b_FR_beginFactor 8 = .ok (.lconst 0, 1) := by decide +kernel
theorem d_FR_beginFactor_9 : decode b_FR_beginFactor 9 = .ok (.lastore, 1) := by decide +kernel
theorem d_FR_beginFactor_10 : decode b_FR_beginFactor 10 = .ok (.aload_n 0, 1) := by decide +kernel
theorem d_FR_beginFactor_11 : decode b_FR_beginFactor 11 = .ok (.iconst 1, 1) := by decide +kernel
theorem d_FR_beginFactor_12 : decode b_FR_beginFactor 12 = .ok (.putfield 31, 3) := by decide +kernel
theorem d_FR_beginFactor_15 : decode b_FR_beginFactor 15 = .ok (.return_, 1) := by decide +kernel
theorem d_FR_takeInOperand_0 : decode b_FR_takeInOperand 0 = .ok (.iload_n 1, 1) := by decide +kernel
theorem d_FR_takeInOperand_1 : decode b_FR_takeInOperand 1 = .ok (.bipush 33, 2) := by decide +kernel
theorem d_FR_takeInOperand_3 : decode b_FR_takeInOperand 3 = .ok (.if_icmp .ne 27, 3) := by decide +kernel
theorem d_FR_takeInOperand_6 : decode b_FR_takeInOperand 6 = .ok (.aload_n 0, 1) := by decide +kernel
theorem d_FR_takeInOperand_7 : decode b_FR_takeInOperand 7 = .ok (.getfield 21, 3) := by decide +kernel
theorem d_FR_takeInOperand_10 : decode b_FR_takeInOperand 10 = .ok (.aload_n 0, 1) := by decide +kernel
theorem d_FR_takeInOperand_11 : decode b_FR_takeInOperand 11 = .ok (.getfield 24, 3) := by decide +kernel
theorem d_FR_takeInOperand_14 : decode b_FR_takeInOperand 14 = .ok (.aload_n 0, 1) := by decide +kernel
theorem d_FR_takeInOperand_15 : decode b_FR_takeInOperand 15 = .ok (.getfield 21, 3) := by decide +kernel
theorem d_FR_takeInOperand_18 : decode b_FR_takeInOperand 18 = .ok (.aload_n 0, 1) := by decide +kernel
theorem d_FR_takeInOperand_19 : decode b_FR_takeInOperand 19 = .ok (.getfield 24, 3) := by decide +kernel
theorem d_FR_takeInOperand_22 : decode b_FR_takeInOperand 22 = .ok (.laload, 1) := by decide +kernel
theorem d_FR_takeInOperand_23 : decode b_FR_takeInOperand 23 = .ok (.ldc2_w 45, 3) := by decide +kernel
theorem d_FR_takeInOperand_26 : decode b_FR_takeInOperand 26 = .ok (.lxor, 1) := by decide +kernel
theorem d_FR_takeInOperand_27 : decode b_FR_takeInOperand 27 = .ok (.lastore, 1) := by decide +kernel
theorem d_FR_takeInOperand_28 : decode b_FR_takeInOperand 28 = .ok (.iconst 1, 1) := by decide +kernel
theorem d_FR_takeInOperand_29 : decode b_FR_takeInOperand 29 = .ok (.ireturn, 1) := by decide +kernel
theorem d_FR_takeInOperand_30 : decode b_FR_takeInOperand 30 = .ok (.iload_n 1, 1) := by decide +kernel
theorem d_FR_takeInOperand_31 : decode b_FR_takeInOperand 31 = .ok (.bipush 40, 2) := by decide +kernel
theorem d_FR_takeInOperand_33 : decode b_FR_takeInOperand 33 = .ok (.if_icmp .ne 8, 3) := by decide +kernel
theorem d_FR_takeInOperand_36 : decode b_FR_takeInOperand 36 = .ok (.aload_n 0, 1) := by decide +kernel
theorem d_FR_takeInOperand_37 : decode b_FR_takeInOperand 37 = .ok (.invokevirtual 50, 3) := by decide +kernel
theorem d_FR_takeInOperand_40 : decode b_FR_takeInOperand 40 = .ok (.ireturn, 1) := by decide +kernel
theorem d_FR_takeInOperand_41 : decode b_FR_takeInOperand 41 = .ok (.iload_n 1, 1) := by decide +kernel
theorem d_FR_takeInOperand_42 : decode b_FR_takeInOperand 42 = .ok (.bipush 48, 2) := by decide +kernel
theorem d_FR_takeInOperand_44 : decode b_FR_takeInOperand 44 = .ok (.if_icmp .eq 9, 3) := by decide +kernel
theorem d_FR_takeInOperand_47 : decode b_FR_takeInOperand 47 = .ok (.iload_n 1, 1) := by decide +kernel
theorem d_FR_takeInOperand_48 : decode b_FR_takeInOperand 48 = .ok (.bipush 49, 2) := by decide +kernel
theorem d_FR_takeInOperand_50 : decode b_FR_takeInOperand 50 = .ok (.if_icmp .ne 22, 3) := by decide +kernel
theorem d_FR_takeInOperand_53 : decode b_FR_takeInOperand 53 = .ok (.aload_n 0, 1) := by decide +kernel
theorem d_FR_takeInOperand_54 : decode b_FR_takeInOperand 54 = .ok (.iload_n 1, 1) := by decide +kernel
theorem d_FR_takeInOperand_55 : decode b_FR_takeInOperand 55 = .ok (.bipush 49, 2) := by decide +kernel
theorem d_FR_takeInOperand_57 : decode b_FR_takeInOperand 57 = .ok (.if_icmp .ne 9, 3) := by decide +kernel
theorem d_FR_takeInOperand_60 : decode b_FR_takeInOperand 60 = .ok (.ldc2_w 45, 3) := by decide +kernel
theorem d_FR_takeInOperand_63 : decode b_FR_takeInOperand 63 = .ok (.goto 4, 3) := by decide +kernel
theorem d_FR_takeInOperand_66 : decode b_FR_takeInOperand 66 = .ok (.lconst 0, 1) := by decide +kernel
theorem d_FR_takeInOperand_67 : decode b_FR_takeInOperand 67 = .ok (.invokevirtual 54, 3) := by decide +kernel
theorem d_FR_takeInOperand_70 : decode b_FR_takeInOperand 70 = .ok (.iconst 1, 1) := by decide +kernel
theorem d_FR_takeInOperand_71 : decode b_FR_takeInOperand 71 = .ok (.ireturn, 1) := by decide +kernel
theorem d_FR_takeInOperand_72 : decode b_FR_takeInOperand 72 = .ok (.iload_n 1, 1) := by decide +kernel
theorem d_FR_takeInOperand_73 : decode b_FR_takeInOperand 73 = .ok (.bipush 97, 2) := by decide +kernel
theorem d_FR_takeInOperand_75 : decode b_FR_takeInOperand 75 = .ok (.if_icmp .lt 22, 3) := by decide +kernel
theorem d_FR_takeInOperand_78 : decode b_FR_takeInOperand 78 = .ok (.iload_n 1, 1) := by decide +kernel
theorem d_FR_takeInOperand_79 : decode b_FR_takeInOperand 79 = .ok (.bipush 103, 2) := by decide +kernel
theorem d_FR_takeInOperand_81 : decode b_FR_takeInOperand 81 = .ok (.if_icmp .ge 16, 3) := by decide +kernel
theorem d_FR_takeInOperand_84 : decode b_FR_takeInOperand 84 = .ok (.aload_n 0, 1) := by decide +kernel
theorem d_FR_takeInOperand_85 : decode b_FR_takeInOperand 85 = .ok (.iload_n 1, 1) := by decide +kernel
theorem d_FR_takeInOperand_86 : decode b_FR_takeInOperand 86 = .ok (.bipush 97, 2) := by decide +kernel
theorem d_FR_takeInOperand_88 : decode b_FR_takeInOperand 88 = .ok (.isub, 1) := by decide +kernel
theorem d_FR_takeInOperand_89 : decode b_FR_takeInOperand 89 = .ok (.invokestatic 58, 3) := by decide +kernel
theorem d_FR_takeInOperand_92 : decode b_FR_takeInOperand 92 = .ok (.invokevirtual 54, 3) := by decide +kernel
theorem d_FR_takeInOperand_95 : decode b_FR_takeInOperand 95 = .ok (.iconst 1, 1) := by decide +kernel
theorem d_FR_takeInOperand_96 : decode b_FR_takeInOperand 96 = .ok (.ireturn, 1) := by decide +kernel
theorem d_FR_takeInOperand_97 : decode b_FR_takeInOperand 97 = .ok (.iload_n 1, 1) := by decide +kernel
theorem d_FR_takeInOperand_98 : decode b_FR_takeInOperand 98 = .ok (.bipush 65, 2) := by decide +kernel
theorem d_FR_takeInOperand_100 : decode b_FR_takeInOperand 100 = .ok (.if_icmp .lt 34, 3) := by decide +kernel
theorem d_FR_takeInOperand_103 : decode b_FR_takeInOperand 103 = .ok (.iload_n 1, 1) := by decide +kernel
theorem d_FR_takeInOperand_104 : decode b_FR_takeInOperand 104 = .ok (.bipush 73, 2) := by decide +kernel
theorem d_FR_takeInOperand_106 : decode b_FR_takeInOperand 106 = .ok (.if_icmp .ge 28, 3) := by decide +kernel
theorem d_FR_takeInOperand_109 : decode b_FR_takeInOperand 109 = .ok (.aload_n 2, 1) := by decide +kernel
theorem d_FR_takeInOperand_110 : decode b_FR_takeInOperand 110 = .ok (.iload_n 1, 1) := by decide +kernel
theorem d_FR_takeInOperand_111 : decode b_FR_takeInOperand 111 = .ok (.bipush 65, 2) := by decide +kernel
theorem d_FR_takeInOperand_113 : decode b_FR_takeInOperand 113 = .ok (.isub, 1) := by decide +kernel
theorem d_FR_takeInOperand_114 : decode b_FR_takeInOperand 114 = .ok (.invokevirtual 62, 3) := by decide +kernel
theorem d_FR_takeInOperand_117 : decode b_FR_takeInOperand 117 = .ok (.ifCond .eq 17, 3) := by decide +kernel
theorem d_FR_takeInOperand_120 : decode b_FR_takeInOperand 120 = .ok (.aload_n 0, 1) := by decide +kernel
theorem d_FR_takeInOperand_121 : decode b_FR_takeInOperand 121 = .ok (.aload_n 2, 1) := by decide +kernel
theorem d_FR_takeInOperand_122 : decode b_FR_takeInOperand 122 = .ok (.iload_n 1, 1) := by decide +kernel
theorem d_FR_takeInOperand_123 : decode b_FR_takeInOperand 123 = .ok (.bipush 65, 2) := by decide +kernel
theorem d_FR_takeInOperand_125 : decode b_FR_takeInOperand 125 = .ok (.isub, 1) := by decide +kernel
theorem d_FR_takeInOperand_126 : decode b_FR_takeInOperand 126 = .ok (.invokevirtual 68, 3) := by decide +kernel
theorem d_FR_takeInOperand_129 : decode b_FR_takeInOperand 129 = .ok (.invokevirtual 54, 3) := by decide +kernel
theorem d_FR_takeInOperand_132 : decode b_FR_takeInOperand 132 = .ok (.iconst 1, 1) := by decide +kernel
theorem d_FR_takeInOperand_133 : decode b_FR_takeInOperand 133 = .ok (.ireturn, 1) := by decide +kernel
theorem d_FR_takeInOperand_134 : decode b_FR_takeInOperand 134 = .ok (.iconst 0, 1) := by decide +kernel
theorem d_FR_takeInOperand_135 : decode b_FR_takeInOperand 135 = .ok (.ireturn, 1) := by decide +kernel
theorem d_FR_openParenthesis_0 : decode b_FR_openParenthesis 0 = .ok (.aload_n 0, 1) := by decide +kernel
theorem d_FR_openParenthesis_1 : decode b_FR_openParenthesis 1 = .ok (.getfield 24, 3) := by decide +kernel
theorem d_FR_openParenthesis_4 : decode b_FR_openParenthesis 4 = .ok (.iconst 5, 1) := by decide +kernel
theorem d_FR_openParenthesis_5 : decode b_FR_openParenthesis 5 = .ok (.if_icmp .lt 5, 3) := by decide +kernel
theorem d_FR_openParenthesis_8 : decode b_FR_openParenthesis 8 = .ok (.iconst 0, 1) := by decide +kernel
theorem d_FR_openParenthesis_9 : decode b_FR_openParenthesis 9 = .ok (.ireturn, 1) := by decide +kernel
theorem d_FR_openParenthesis_10 : decode b_FR_openParenthesis 10 = .ok (.aload_n 0, 1) := by decide +kernel
theorem d_FR_openParenthesis_11 : decode b_FR_openParenthesis 11 = .ok (.dup, 1) := by decide +kernel
theorem d_FR_openParenthesis_12 : decode b_FR_openParenthesis 12 = .ok (.getfield 24, 3) := by decide +kernel
theorem d_FR_openParenthesis_15 : decode b_FR_openParenthesis 15 = .ok (.iconst 1, 1) := by decide +kernel
theorem d_FR_openParenthesis_16 : decode b_FR_openParenthesis 16 = .ok (.iadd, 1) := by decide +kernel
theorem d_FR_openParenthesis_17 : decode b_FR_openParenthesis 17 = .ok (.putfield 24, 3) := by decide +kernel
theorem d_FR_openParenthesis_20 : decode b_FR_openParenthesis 20 = .ok (.aload_n 0, 1) := by decide +kernel
theorem d_FR_openParenthesis_21 : decode b_FR_openParenthesis 21 = .ok (.invokevirtual 28, 3) := by decide +kernel
theorem d_FR_openParenthesis_24 : decode b_FR_openParenthesis 24 = .ok (.iconst 1, 1) := by decide +kernel
theorem d_FR_openParenthesis_25 : decode b_FR_openParenthesis 25 = .ok (.ireturn, 1) := by decide +kernel
theorem d_FR_endFactor_0 : decode b_FR_endFactor 0 = .ok (.aload_n 0, 1) := by decide +kernel
theorem d_FR_endFactor_1 : decode b_FR_endFactor 1 = .ok (.getfield 18, 3) := by decide +kernel
theorem d_FR_endFactor_4 : decode b_FR_endFactor 4 = .ok (.aload_n 0, 1) := by decide +kernel
theorem d_FR_endFactor_5 : decode b_FR_endFactor 5 = .ok (.getfield 24, 3) := by decide +kernel
theorem d_FR_endFactor_8 : decode b_FR_endFactor 8 = .ok (.dup2, 1) := by decide +kernel
theorem d_FR_endFactor_9 : decode b_FR_endFactor 9 = .ok (.laload, 1) := by decide +kernel
theorem d_FR_endFactor_10 : decode b_FR_endFactor 10 = .ok (.lload_n 1, 1) := by decide +kernel
theorem d_FR_endFactor_11 : decode b_FR_endFactor 11 = .ok (.aload_n 0, 1) := by decide +kernel
theorem d_FR_endFactor_12 : decode b_FR_endFactor 12 = .ok (.getfield 21, 3) := by decide +kernel
theorem d_FR_endFactor_15 : decode b_FR_endFactor 15 = .ok (.aload_n 0, 1) := by decide +kernel
theorem d_FR_endFactor_16 : decode b_FR_endFactor 16 = .ok (.getfield 24, 3) := by decide +kernel
theorem d_FR_endFactor_19 : decode b_FR_endFactor 19 = .ok (.laload, 1) := by decide +kernel
theorem d_FR_endFactor_20 : decode b_FR_endFactor 20 = .ok (.lxor, 1) := by decide +kernel
theorem d_FR_endFactor_21 : decode b_FR_endFactor 21 = .ok (.land, 1) := by decide +kernel
theorem d_FR_endFactor_22 : decode b_FR_endFactor 22 = .ok (.lastore, 1) := by decide +kernel
theorem d_FR_endFactor_23 : decode b_FR_endFactor 23 = .ok (.aload_n 0, 1) := by decide +kernel
theorem d_FR_endFactor_24 : decode b_FR_endFactor 24 = .ok (.iconst 0, 1) := by decide +kernel
theorem d_FR_endFactor_25 : decode b_FR_endFactor 25 = .ok (.putfield 31, 3) := by decide +kernel
theorem d_FR_endFactor_28 : decode b_FR_endFactor 28 = .ok (.return_, 1) := by decide +kernel
theorem d_FR_takeBehindOperand_0 : decode b_FR_takeBehindOperand 0 = .ok (.iload_n 1, 1) := by decide +kernel
theorem d_FR_takeBehindOperand_1 : decode b_FR_takeBehindOperand 1 = .ok (.lookupswitch 134 #[(38, 43), (41, 129), (94, 49), (124, 88)], 43) := by decide +kernel
theorem d_FR_takeBehindOperand_44 : decode b_FR_takeBehindOperand 44 = .ok (.aload_n 0, 1) := by decide +kernel
theorem d_FR_takeBehindOperand_45 : decode b_FR_takeBehindOperand 45 = .ok (.invokevirtual 47, 3) := by decide +kernel
theorem d_FR_takeBehindOperand_48 : decode b_FR_takeBehindOperand 48 = .ok (.iconst 1, 1) := by decide +kernel
theorem d_FR_takeBehindOperand_49 : decode b_FR_takeBehindOperand 49 = .ok (.ireturn, 1) := by decide +kernel
theorem d_FR_takeBehindOperand_50 : decode b_FR_takeBehindOperand 50 = .ok (.aload_n 0, 1) := by decide +kernel
theorem d_FR_takeBehindOperand_51 : decode b_FR_takeBehindOperand 51 = .ok (.getfield 15, 3) := by decide +kernel
theorem d_FR_takeBehindOperand_54 : decode b_FR_takeBehindOperand 54 = .ok (.aload_n 0, 1) := by decide +kernel
theorem d_FR_takeBehindOperand_55 : decode b_FR_takeBehindOperand 55 = .ok (.getfield 24, 3) := by decide +kernel
theorem d_FR_takeBehindOperand_58 : decode b_FR_takeBehindOperand 58 = .ok (.dup2, 1) := by decide +kernel
theorem d_FR_takeBehindOperand_59 : decode b_FR_takeBehindOperand 59 = .ok (.laload, 1) := by decide +kernel
theorem d_FR_takeBehindOperand_60 : decode b_FR_takeBehindOperand 60 = .ok (.aload_n 0, 1) := by decide +kernel
theorem d_FR_takeBehindOperand_61 : decode b_FR_takeBehindOperand 61 = .ok (.getfield 18, 3) := by decide +kernel
theorem d_FR_takeBehindOperand_64 : decode b_FR_takeBehindOperand 64 = .ok (.aload_n 0, 1) := by decide +kernel
theorem d_FR_takeBehindOperand_65 : decode b_FR_takeBehindOperand 65 = .ok (.getfield 24, 3) := by decide +kernel
theorem d_FR_takeBehindOperand_68 : decode b_FR_takeBehindOperand 68 = .ok (.laload, 1) := by decide +kernel
theorem d_FR_takeBehindOperand_69 : decode b_FR_takeBehindOperand 69 = .ok (.lxor, 1) := by decide +kernel
theorem d_FR_takeBehindOperand_70 : decode b_FR_takeBehindOperand 70 = .ok (.lastore, 1) := by decide +kernel
theorem d_FR_takeBehindOperand_71 : decode b_FR_takeBehindOperand 71 = .ok (.aload_n 0, 1) := by decide +kernel
theorem d_FR_takeBehindOperand_72 : decode b_FR_takeBehindOperand 72 = .ok (.getfield 18, 3) := by decide +kernel
theorem d_FR_takeBehindOperand_75 : decode b_FR_takeBehindOperand 75 = .ok (.aload_n 0, 1) := by decide +kernel
theorem d_FR_takeBehindOperand_76 : decode b_FR_takeBehindOperand 76 = .ok (.getfield 24, 3) := by decide +kernel
theorem d_FR_takeBehindOperand_79 : decode b_FR_takeBehindOperand 79 = .ok (.ldc2_w 45, 3) := by decide +kernel
theorem d_FR_takeBehindOperand_82 : decode b_FR_takeBehindOperand 82 = .ok (.lastore, 1) := by decide +kernel
theorem d_FR_takeBehindOperand_83 : decode b_FR_takeBehindOperand 83 = .ok (.aload_n 0, 1) := by decide +kernel
theorem d_FR_takeBehindOperand_84 : decode b_FR_takeBehindOperand 84 = .ok (.invokevirtual 47, 3) := by decide +kernel
theorem d_FR_takeBehindOperand_87 : decode b_FR_takeBehindOperand 87 = .ok (.iconst 1, 1) := by decide +kernel
theorem d_FR_takeBehindOperand_88 : decode b_FR_takeBehindOperand 88 = .ok (.ireturn, 1) := by decide +kernel
theorem d_FR_takeBehindOperand_89 : decode b_FR_takeBehindOperand 89 = .ok (.aload_n 0, 1) := by decide +kernel
theorem d_FR_takeBehindOperand_90 : decode b_FR_takeBehindOperand 90 = .ok (.getfield 11, 3) := by decide +kernel
theorem d_FR_takeBehindOperand_93 : decode b_FR_takeBehindOperand 93 = .ok (.aload_n 0, 1) := by decide +kernel
theorem d_FR_takeBehindOperand_94 : decode b_FR_takeBehindOperand 94 = .ok (.getfield 24, 3) := by decide +kernel
theorem d_FR_takeBehindOperand_97 : decode b_FR_takeBehindOperand 97 = .ok (.aload_n 0, 1) := by decide +kernel
theorem d_FR_takeBehindOperand_98 : decode b_FR_takeBehindOperand 98 = .ok (.invokevirtual 71, 3) := by decide +kernel
theorem d_FR_takeBehindOperand_101 : decode b_FR_takeBehindOperand 101 = .ok (.lastore, 1) := by decide +kernel
theorem d_FR_takeBehindOperand_102 : decode b_FR_takeBehindOperand 102 = .ok (.aload_n 0, 1) := by decide +kernel
theorem d_FR_takeBehindOperand_103 : decode b_FR_takeBehindOperand 103 = .ok (.getfield 15, 3) := by decide +kernel
theorem d_FR_takeBehindOperand_106 : decode b_FR_takeBehindOperand 106 = .ok (.aload_n 0, 1) := by decide +kernel
theorem d_FR_takeBehindOperand_107 : decode b_FR_takeBehindOperand 107 = .ok (.getfield 24, 3) := by decide +kernel
theorem d_FR_takeBehindOperand_110 : decode b_FR_takeBehindOperand 110 = .ok (.lconst 0, 1) := by decide +kernel
theorem d_FR_takeBehindOperand_111 : decode b_FR_takeBehindOperand 111 = .ok (.lastore, 1) := by decide +kernel
theorem d_FR_takeBehindOperand_112 : decode b_FR_takeBehindOperand 112 = .ok (.aload_n 0, 1) := by decide +kernel
theorem d_FR_takeBehindOperand_113 : decode b_FR_takeBehindOperand 113 = .ok (.getfield 18, 3) := by decide +kernel
theorem d_FR_takeBehindOperand_116 : decode b_FR_takeBehindOperand 116 = .ok (.aload_n 0, 1) := by decide +kernel
theorem d_FR_takeBehindOperand_117 : decode b_FR_takeBehindOperand 117 = .ok (.getfield 24, 3) := by decide +kernel
theorem d_FR_takeBehindOperand_120 : decode b_FR_takeBehindOperand 120 = .ok (.ldc2_w 45, 3) := by decide +kernel
theorem d_FR_takeBehindOperand_123 : decode b_FR_takeBehindOperand 123 = .ok (.lastore, 1) := by decide +kernel
theorem d_FR_takeBehindOperand_124 : decode b_FR_takeBehindOperand 124 = .ok (.aload_n 0, 1) := by decide +kernel
theorem d_FR_takeBehindOperand_125 : decode b_FR_takeBehindOperand 125 = .ok (.invokevirtual 47, 3) := by decide +kernel
theorem d_FR_takeBehindOperand_128 : decode b_FR_takeBehindOperand 128 = .ok (.iconst 1, 1) := by decide +kernel
theorem d_FR_takeBehindOperand_129 : decode b_FR_takeBehindOperand 129 = .ok (.ireturn, 1) := by decide +kernel
theorem d_FR_takeBehindOperand_130 : decode b_FR_takeBehindOperand 130 = .ok (.aload_n 0, 1) := by decide +kernel
theorem d_FR_takeBehindOperand_131 : decode b_FR_takeBehindOperand 131 = .ok (.invokevirtual 75, 3) := by decide +kernel
theorem d_FR_takeBehindOperand_134 : decode b_FR_takeBehindOperand 134 = .ok (.ireturn, 1) := by decide +kernel
theorem d_FR_takeBehindOperand_135 : decode b_FR_takeBehindOperand 135 = .ok (.iconst 0, 1) := by decide +kernel
theorem d_FR_takeBehindOperand_136 : decode b_FR_takeBehindOperand 136 = .ok (.ireturn, 1) := by decide +kernel
theorem d_FR_meaning_0 : decode b_FR_meaning 0 = .ok (.aload_n 0, 1) := by decide +kernel
theorem d_FR_meaning_1 : decode b_FR_meaning 1 = .ok (.getfield 11, 3) := by decide +kernel
theorem d_FR_meaning_4 : decode b_FR_meaning 4 = .ok (.aload_n 0, 1) := by decide +kernel
theorem d_FR_meaning_5 : decode b_FR_meaning 5 = .ok (.getfield 24, 3) := by decide +kernel
theorem d_FR_meaning_8 : decode b_FR_meaning 8 = .ok (.laload, 1) := by decide +kernel
theorem d_FR_meaning_9 : decode b_FR_meaning 9 = .ok (.aload_n 0, 1) := by decide +kernel
theorem d_FR_meaning_10 : decode b_FR_meaning 10 = .ok (.getfield 15, 3) := by decide +kernel
theorem d_FR_meaning_13 : decode b_FR_meaning 13 = .ok (.aload_n 0, 1) := by decide +kernel
theorem d_FR_meaning_14 : decode b_FR_meaning 14 = .ok (.getfield 24, 3) := by decide +kernel
theorem d_FR_meaning_17 : decode b_FR_meaning 17 = .ok (.laload, 1) := by decide +kernel
theorem d_FR_meaning_18 : decode b_FR_meaning 18 = .ok (.aload_n 0, 1) := by decide +kernel
theorem d_FR_meaning_19 : decode b_FR_meaning 19 = .ok (.getfield 18, 3) := by decide +kernel
theorem d_FR_meaning_22 : decode b_FR_meaning 22 = .ok (.aload_n 0, 1) := by decide +kernel
theorem d_FR_meaning_23 : decode b_FR_meaning 23 = .ok (.getfield 24, 3) := by decide +kernel
theorem d_FR_meaning_26 : decode b_FR_meaning 26 = .ok (.laload, 1) := by decide +kernel
theorem d_FR_meaning_27 : decode b_FR_meaning 27 = .ok (.lxor, 1) := by decide +kernel
theorem d_FR_meaning_28 : decode b_FR_meaning 28 = .ok (.lor, 1) := by decide +kernel
theorem d_FR_meaning_29 : decode b_FR_meaning 29 = .ok (.lreturn, 1) := by decide +kernel
theorem d_FR_closeParenthesis_0 : decode b_FR_closeParenthesis 0 = .ok (.aload_n 0, 1) := by decide +kernel
theorem d_FR_closeParenthesis_1 : decode b_FR_closeParenthesis 1 = .ok (.getfield 24, 3) := by decide +kernel
theorem d_FR_closeParenthesis_4 : decode b_FR_closeParenthesis 4 = .ok (.ifCond .gt 5, 3) := by decide +kernel
theorem d_FR_closeParenthesis_7 : decode b_FR_closeParenthesis 7 = .ok (.iconst 0, 1) := by decide +kernel
theorem d_FR_closeParenthesis_8 : decode b_FR_closeParenthesis 8 = .ok (.ireturn, 1) := by decide +kernel
theorem d_FR_closeParenthesis_9 : decode b_FR_closeParenthesis 9 = .ok (.aload_n 0, 1) := by decide +kernel
theorem d_FR_closeParenthesis_10 : decode b_FR_closeParenthesis 10 = .ok (.invokevirtual 71, 3) := by decide +kernel
theorem d_FR_closeParenthesis_13 : decode b_FR_closeParenthesis 13 = .ok (.lstore_n 1, 1) := by decide +kernel
theorem d_FR_closeParenthesis_14 : decode b_FR_closeParenthesis 14 = .ok (.aload_n 0, 1) := by decide +kernel
theorem d_FR_closeParenthesis_15 : decode b_FR_closeParenthesis 15 = .ok (.dup, 1) := by decide +kernel
theorem d_FR_closeParenthesis_16 : decode b_FR_closeParenthesis 16 = .ok (.getfield 24, 3) := by decide +kernel
theorem d_FR_closeParenthesis_19 : decode b_FR_closeParenthesis 19 = .ok (.iconst 1, 1) := by decide +kernel
theorem d_FR_closeParenthesis_20 : decode b_FR_closeParenthesis 20 = .ok (.isub, 1) := by decide +kernel
theorem d_FR_closeParenthesis_21 : decode b_FR_closeParenthesis 21 = .ok (.putfield 24, 3) := by decide +kernel
theorem d_FR_closeParenthesis_24 : decode b_FR_closeParenthesis 24 = .ok (.aload_n 0, 1) := by decide +kernel
theorem d_FR_closeParenthesis_25 : decode b_FR_closeParenthesis 25 = .ok (.lload_n 1, 1) := by decide +kernel
theorem d_FR_closeParenthesis_26 : decode b_FR_closeParenthesis 26 = .ok (.invokevirtual 54, 3) := by decide +kernel
theorem d_FR_closeParenthesis_29 : decode b_FR_closeParenthesis 29 = .ok (.iconst 1, 1) := by decide +kernel
theorem d_FR_closeParenthesis_30 : decode b_FR_closeParenthesis 30 = .ok (.ireturn, 1) := by decide +kernel
theorem d_LW_release_0 : decode b_LW_release 0 = .ok (.aload_n 2, 1) := by decide +kernel
theorem d_LW_release_1 : decode b_LW_release 1 = .ok (.iconst 0, 1) := by decide +kernel
theorem d_LW_release_2 : decode b_LW_release 2 = .ok (.aload_n 0, 1) := by decide +kernel
theorem d_LW_release_3 : decode b_LW_release 3 = .ok (.iload_n 1, 1) := by decide +kernel
theorem d_LW_release_4 : decode b_LW_release 4 = .ok (.invokevirtual 42, 3) := by decide +kernel
theorem d_LW_release_7 : decode b_LW_release 7 = .ok (.ifCond .eq 7, 3) := by decide +kernel
theorem d_LW_release_10 : decode b_LW_release 10 = .ok (.lconst 1, 1) := by decide +kernel
theorem d_LW_release_11 : decode b_LW_release 11 = .ok (.goto 4, 3) := by decide +kernel
theorem d_LW_release_14 : decode b_LW_release 14 = .ok (.lconst 0, 1) := by decide +kernel
theorem d_LW_release_15 : decode b_LW_release 15 = .ok (.lastore, 1) := by decide +kernel
theorem d_LW_release_16 : decode b_LW_release 16 = .ok (.goto 6, 3) := by decide +kernel
theorem d_LW_release_19 : decode b_LW_release 19 = .ok (.astore_n 3, 1) := by decide +kernel
theorem d_LW_release_20 : decode b_LW_release 20 = .ok (.iconst 1, 1) := by decide +kernel
theorem d_LW_release_21 : decode b_LW_release 21 = .ok (.ireturn, 1) := by decide +kernel
theorem d_LW_release_22 : decode b_LW_release 22 = .ok (.iconst 0, 1) := by decide +kernel
theorem d_LW_release_23 : decode b_LW_release 23 = .ok (.ireturn, 1) := by decide +kernel
theorem d_SG_release_0 : decode b_SG_release 0 = .ok (.iload_n 1, 1) := by decide +kernel
theorem d_SG_release_1 : decode b_SG_release 1 = .ok (.bipush 8, 2) := by decide +kernel
theorem d_SG_release_3 : decode b_SG_release 3 = .ok (.invokestatic 42, 3) := by decide +kernel
theorem d_SG_release_6 : decode b_SG_release 6 = .ok (.aload_n 0, 1) := by decide +kernel
theorem d_SG_release_7 : decode b_SG_release 7 = .ok (.getfield 12, 3) := by decide +kernel
theorem d_SG_release_10 : decode b_SG_release 10 = .ok (.iload_n 1, 1) := by decide +kernel
theorem d_SG_release_11 : decode b_SG_release 11 = .ok (.invokevirtual 89, 3) := by decide +kernel
theorem d_SG_release_14 : decode b_SG_release 14 = .ok (.istore_n 2, 1) := by decide +kernel
theorem d_SG_release_15 : decode b_SG_release 15 = .ok (.aload_n 0, 1) := by decide +kernel
theorem d_SG_release_16 : decode b_SG_release 16 = .ok (.getfield 12, 3) := by decide +kernel
theorem d_SG_release_19 : decode b_SG_release 19 = .ok (.iload_n 1, 1) := by decide +kernel
theorem d_SG_release_20 : decode b_SG_release 20 = .ok (.invokevirtual 93, 3) := by decide +kernel
theorem d_SG_release_23 : decode b_SG_release 23 = .ok (.iload_n 2, 1) := by decide +kernel
theorem d_SG_release_24 : decode b_SG_release 24 = .ok (.ireturn, 1) := by decide +kernel
theorem d_RG_clear_0 : decode b_RG_clear 0 = .ok (.aload_n 0, 1) := by decide +kernel
theorem d_RG_clear_1 : decode b_RG_clear 1 = .ok (.getfield 15, 3) := by decide +kernel
theorem d_RG_clear_4 : decode b_RG_clear 4 = .ok (.iload_n 1, 1) := by decide +kernel
theorem d_RG_clear_5 : decode b_RG_clear 5 = .ok (.iconst 0, 1) := by decide +kernel
theorem d_RG_clear_6 : decode b_RG_clear 6 = .ok (.bastore, 1) := by decide +kernel
theorem d_RG_clear_7 : decode b_RG_clear 7 = .ok (.return_, 1) := by decide +kernel
theorem d_LW_equal_0 : decode b_LW_equal 0 = .ok (.aload_n 3, 1) := by decide +kernel
theorem d_LW_equal_1 : decode b_LW_equal 1 = .ok (.iconst 0, 1) := by decide +kernel
theorem d_LW_equal_2 : decode b_LW_equal 2 = .ok (.aload_n 0, 1) := by decide +kernel
theorem d_LW_equal_3 : decode b_LW_equal 3 = .ok (.iload_n 1, 1) := by decide +kernel
theorem d_LW_equal_4 : decode b_LW_equal 4 = .ok (.iload_n 2, 1) := by decide +kernel
theorem d_LW_equal_5 : decode b_LW_equal 5 = .ok (.invokevirtual 46, 3) := by decide +kernel
theorem d_LW_equal_8 : decode b_LW_equal 8 = .ok (.ifCond .eq 7, 3) := by decide +kernel
theorem d_LW_equal_11 : decode b_LW_equal 11 = .ok (.lconst 1, 1) := by decide +kernel
theorem d_LW_equal_12 : decode b_LW_equal 12 = .ok (.goto 4, 3) := by decide +kernel
theorem d_LW_equal_15 : decode b_LW_equal 15 = .ok (.lconst 0, 1) := by decide +kernel
theorem d_LW_equal_16 : decode b_LW_equal 16 = .ok (.lastore, 1) := by decide +kernel
theorem d_LW_equal_17 : decode b_LW_equal 17 = .ok (.goto 11, 3) := by decide +kernel
theorem d_LW_equal_20 : decode b_LW_equal 20 = .ok (.astore 4, 2) := by decide +kernel
theorem d_LW_equal_22 : decode b_LW_equal 22 = .ok (.iconst 1, 1) := by decide +kernel
theorem d_LW_equal_23 : decode b_LW_equal 23 = .ok (.ireturn, 1) := by decide +kernel
theorem d_LW_equal_24 : decode b_LW_equal 24 = .ok (.astore 4, 2) := by decide +kernel
theorem d_LW_equal_26 : decode b_LW_equal 26 = .ok (.iconst 2, 1) := by decide +kernel
theorem d_LW_equal_27 : decode b_LW_equal 27 = .ok (.ireturn, 1) := by decide +kernel
theorem d_LW_equal_28 : decode b_LW_equal 28 = .ok (.iconst 0, 1) := by decide +kernel
theorem d_LW_equal_29 : decode b_LW_equal 29 = .ok (.ireturn, 1) := by decide +kernel
theorem d_SG_equal_0 : decode b_SG_equal 0 = .ok (.iload_n 1, 1) := by decide +kernel
theorem d_SG_equal_1 : decode b_SG_equal 1 = .ok (.bipush 8, 2) := by decide +kernel
theorem d_SG_equal_3 : decode b_SG_equal 3 = .ok (.invokestatic 42, 3) := by decide +kernel
theorem d_SG_equal_6 : decode b_SG_equal 6 = .ok (.iload_n 2, 1) := by decide +kernel
theorem d_SG_equal_7 : decode b_SG_equal 7 = .ok (.bipush 8, 2) := by decide +kernel
theorem d_SG_equal_9 : decode b_SG_equal 9 = .ok (.invokestatic 42, 3) := by decide +kernel
theorem d_SG_equal_12 : decode b_SG_equal 12 = .ok (.aload_n 0, 1) := by decide +kernel
theorem d_SG_equal_13 : decode b_SG_equal 13 = .ok (.iload_n 1, 1) := by decide +kernel
theorem d_SG_equal_14 : decode b_SG_equal 14 = .ok (.invokevirtual 58, 3) := by decide +kernel
theorem d_SG_equal_17 : decode b_SG_equal 17 = .ok (.aload_n 0, 1) := by decide +kernel
theorem d_SG_equal_18 : decode b_SG_equal 18 = .ok (.iload_n 2, 1) := by decide +kernel
theorem d_SG_equal_19 : decode b_SG_equal 19 = .ok (.invokevirtual 58, 3) := by decide +kernel
theorem d_SG_equal_22 : decode b_SG_equal 22 = .ok (.lcmp, 1) := by decide +kernel
theorem d_SG_equal_23 : decode b_SG_equal 23 = .ok (.ifCond .ne 7, 3) := by decide +kernel
theorem d_SG_equal_26 : decode b_SG_equal 26 = .ok (.iconst 1, 1) := by decide +kernel
theorem d_SG_equal_27 : decode b_SG_equal 27 = .ok (.goto 4, 3) := by decide +kernel
theorem d_SG_equal_30 : decode b_SG_equal 30 = .ok (.iconst 0, 1) := by decide +kernel
theorem d_SG_equal_31 : decode b_SG_equal 31 = .ok (.ireturn, 1) := by decide +kernel
theorem d_LW_value_0 : decode b_LW_value 0 = .ok (.aload_n 3, 1) := by decide +kernel
theorem d_LW_value_1 : decode b_LW_value 1 = .ok (.iconst 0, 1) := by decide +kernel
theorem d_LW_value_2 : decode b_LW_value 2 = .ok (.aload_n 0, 1) := by decide +kernel
theorem d_LW_value_3 : decode b_LW_value 3 = .ok (.iload_n 1, 1) := by decide +kernel
theorem d_LW_value_4 : decode b_LW_value 4 = .ok (.iload_n 2, 1) := by decide +kernel
theorem d_LW_value_5 : decode b_LW_value 5 = .ok (.invokevirtual 50, 3) := by decide +kernel
theorem d_LW_value_8 : decode b_LW_value 8 = .ok (.ifCond .eq 7, 3) := by decide +kernel
theorem d_LW_value_11 : decode b_LW_value 11 = .ok (.lconst 1, 1) := by decide +kernel
theorem d_LW_value_12 : decode b_LW_value 12 = .ok (.goto 4, 3) := by decide +kernel
theorem d_LW_value_15 : decode b_LW_value 15 = .ok (.lconst 0, 1) := by decide +kernel
theorem d_LW_value_16 : decode b_LW_value 16 = .ok (.lastore, 1) := by decide +kernel
theorem d_LW_value_17 : decode b_LW_value 17 = .ok (.goto 11, 3) := by decide +kernel
theorem d_LW_value_20 : decode b_LW_value 20 = .ok (.astore 4, 2) := by decide +kernel
theorem d_LW_value_22 : decode b_LW_value 22 = .ok (.iconst 1, 1) := by decide +kernel
theorem d_LW_value_23 : decode b_LW_value 23 = .ok (.ireturn, 1) := by decide +kernel
theorem d_LW_value_24 : decode b_LW_value 24 = .ok (.astore 4, 2) := by decide +kernel
theorem d_LW_value_26 : decode b_LW_value 26 = .ok (.iconst 2, 1) := by decide +kernel
theorem d_LW_value_27 : decode b_LW_value 27 = .ok (.ireturn, 1) := by decide +kernel
theorem d_LW_value_28 : decode b_LW_value 28 = .ok (.iconst 0, 1) := by decide +kernel
theorem d_LW_value_29 : decode b_LW_value 29 = .ok (.ireturn, 1) := by decide +kernel
theorem d_SG_value_0 : decode b_SG_value 0 = .ok (.iload_n 1, 1) := by decide +kernel
theorem d_SG_value_1 : decode b_SG_value 1 = .ok (.bipush 8, 2) := by decide +kernel
theorem d_SG_value_3 : decode b_SG_value 3 = .ok (.invokestatic 42, 3) := by decide +kernel
theorem d_SG_value_6 : decode b_SG_value 6 = .ok (.iload_n 2, 1) := by decide +kernel
theorem d_SG_value_7 : decode b_SG_value 7 = .ok (.bipush 64, 2) := by decide +kernel
theorem d_SG_value_9 : decode b_SG_value 9 = .ok (.invokestatic 42, 3) := by decide +kernel
theorem d_SG_value_12 : decode b_SG_value 12 = .ok (.aload_n 0, 1) := by decide +kernel
theorem d_SG_value_13 : decode b_SG_value 13 = .ok (.iload_n 1, 1) := by decide +kernel
theorem d_SG_value_14 : decode b_SG_value 14 = .ok (.invokevirtual 58, 3) := by decide +kernel
theorem d_SG_value_17 : decode b_SG_value 17 = .ok (.iload_n 2, 1) := by decide +kernel
theorem d_SG_value_18 : decode b_SG_value 18 = .ok (.invokestatic 97, 3) := by decide +kernel
theorem d_SG_value_21 : decode b_SG_value 21 = .ok (.ireturn, 1) := by decide +kernel
theorem d_TB_at_0 : decode b_TB_at 0 = .ok (.lload_n 0, 1) := by decide +kernel
theorem d_TB_at_1 : decode b_TB_at 1 = .ok (.iload_n 2, 1) := by decide +kernel
theorem d_TB_at_2 : decode b_TB_at 2 = .ok (.lushr, 1) := by decide +kernel
theorem d_TB_at_3 : decode b_TB_at 3 = .ok (.lconst 1, 1) := by decide +kernel
theorem d_TB_at_4 : decode b_TB_at 4 = .ok (.land, 1) := by decide +kernel
theorem d_TB_at_5 : decode b_TB_at 5 = .ok (.lconst 1, 1) := by decide +kernel
theorem d_TB_at_6 : decode b_TB_at 6 = .ok (.lcmp, 1) := by decide +kernel
theorem d_TB_at_7 : decode b_TB_at 7 = .ok (.ifCond .ne 7, 3) := by decide +kernel
theorem d_TB_at_10 : decode b_TB_at 10 = .ok (.iconst 1, 1) := by decide +kernel
theorem d_TB_at_11 : decode b_TB_at 11 = .ok (.goto 4, 3) := by decide +kernel
theorem d_TB_at_14 : decode b_TB_at 14 = .ok (.iconst 0, 1) := by decide +kernel
theorem d_TB_at_15 : decode b_TB_at 15 = .ok (.ireturn, 1) := by decide +kernel
theorem d_LW_count_0 : decode b_LW_count 0 = .ok (.aload_n 2, 1) := by decide +kernel
theorem d_LW_count_1 : decode b_LW_count 1 = .ok (.iconst 0, 1) := by decide +kernel
theorem d_LW_count_2 : decode b_LW_count 2 = .ok (.aload_n 0, 1) := by decide +kernel
theorem d_LW_count_3 : decode b_LW_count 3 = .ok (.iload_n 1, 1) := by decide +kernel
theorem d_LW_count_4 : decode b_LW_count 4 = .ok (.invokevirtual 53, 3) := by decide +kernel
theorem d_LW_count_7 : decode b_LW_count 7 = .ok (.i2l, 1) := by decide +kernel
theorem d_LW_count_8 : decode b_LW_count 8 = .ok (.lastore, 1) := by decide +kernel
theorem d_LW_count_9 : decode b_LW_count 9 = .ok (.goto 9, 3) := by decide +kernel
theorem d_LW_count_12 : decode b_LW_count 12 = .ok (.astore_n 3, 1) := by decide +kernel
theorem d_LW_count_13 : decode b_LW_count 13 = .ok (.iconst 1, 1) := by decide +kernel
theorem d_LW_count_14 : decode b_LW_count 14 = .ok (.ireturn, 1) := by decide +kernel
theorem d_LW_count_15 : decode b_LW_count 15 = .ok (.astore_n 3, 1) := by decide +kernel
theorem d_LW_count_16 : decode b_LW_count 16 = .ok (.iconst 2, 1) := by decide +kernel
theorem d_LW_count_17 : decode b_LW_count 17 = .ok (.ireturn, 1) := by decide +kernel
theorem d_LW_count_18 : decode b_LW_count 18 = .ok (.iconst 0, 1) := by decide +kernel
theorem d_LW_count_19 : decode b_LW_count 19 = .ok (.ireturn, 1) := by decide +kernel
theorem d_SG_count_0 : decode b_SG_count 0 = .ok (.iload_n 1, 1) := by decide +kernel
theorem d_SG_count_1 : decode b_SG_count 1 = .ok (.bipush 8, 2) := by decide +kernel
theorem d_SG_count_3 : decode b_SG_count 3 = .ok (.invokestatic 42, 3) := by decide +kernel
theorem d_SG_count_6 : decode b_SG_count 6 = .ok (.aload_n 0, 1) := by decide +kernel
theorem d_SG_count_7 : decode b_SG_count 7 = .ok (.iload_n 1, 1) := by decide +kernel
theorem d_SG_count_8 : decode b_SG_count 8 = .ok (.invokevirtual 58, 3) := by decide +kernel
theorem d_SG_count_11 : decode b_SG_count 11 = .ok (.invokestatic 101, 3) := by decide +kernel
theorem d_SG_count_14 : decode b_SG_count 14 = .ok (.ireturn, 1) := by decide +kernel
theorem d_JL_bitCount_0 : decode b_JL_bitCount 0 = .ok (.lload_n 0, 1) := by decide +kernel
theorem d_JL_bitCount_1 : decode b_JL_bitCount 1 = .ok (.lload_n 0, 1) := by decide +kernel
theorem d_JL_bitCount_2 : decode b_JL_bitCount 2 = .ok (.iconst 1, 1) := by decide +kernel
theorem d_JL_bitCount_3 : decode b_JL_bitCount 3 = .ok (.lushr, 1) := by decide +kernel
theorem d_JL_bitCount_4 : decode b_JL_bitCount 4 = .ok (.ldc2_w 314, 3) := by decide +kernel
theorem d_JL_bitCount_7 : decode b_JL_bitCount 7 = .ok (.land, 1) := by decide +kernel
theorem d_JL_bitCount_8 : decode b_JL_bitCount 8 = .ok (.lsub, 1) := by decide +kernel
theorem d_JL_bitCount_9 : decode b_JL_bitCount 9 = .ok (.lstore_n 0, 1) := by decide +kernel
theorem d_JL_bitCount_10 : decode b_JL_bitCount 10 = .ok (.lload_n 0, 1) := by decide +kernel
theorem d_JL_bitCount_11 : decode b_JL_bitCount 11 = .ok (.ldc2_w 316, 3) := by decide +kernel
theorem d_JL_bitCount_14 : decode b_JL_bitCount 14 = .ok (.land, 1) := by decide +kernel
theorem d_JL_bitCount_15 : decode b_JL_bitCount 15 = .ok (.lload_n 0, 1) := by decide +kernel
theorem d_JL_bitCount_16 : decode b_JL_bitCount 16 = .ok (.iconst 2, 1) := by decide +kernel
theorem d_JL_bitCount_17 : decode b_JL_bitCount 17 = .ok (.lushr, 1) := by decide +kernel
theorem d_JL_bitCount_18 : decode b_JL_bitCount 18 = .ok (.ldc2_w 316, 3) := by decide +kernel
theorem d_JL_bitCount_21 : decode b_JL_bitCount 21 = .ok (.land, 1) := by decide +kernel
