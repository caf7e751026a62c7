theorem d_MD_compose_97 : decode b_MD_compose 97 = .ok (.laload, 1) := by decide +kernel
theorem d_MD_compose_98 : decode b_MD_compose 98 = .ok (.invokestatic 48, 3) := by decide +kernel
theorem d_MD_compose_101 : decode b_MD_compose 101 = .ok (.invokevirtual 62, 3) := by decide +kernel
theorem d_MD_compose_104 : decode b_MD_compose 104 = .ok (.return_, 1) := by decide +kernel
theorem d_MD_quantify_0 : decode b_MD_quantify 0 = .ok (.iload_n 1, 1) := by decide +kernel
theorem d_MD_quantify_1 : decode b_MD_quantify 1 = .ok (.invokestatic 54, 3) := by decide +kernel
theorem d_MD_quantify_4 : decode b_MD_quantify 4 = .ok (.ifCond .eq 24, 3) := by decide +kernel
theorem d_MD_quantify_7 : decode b_MD_quantify 7 = .ok (.iload_n 2, 1) := by decide +kernel
theorem d_MD_quantify_8 : decode b_MD_quantify 8 = .ok (.invokestatic 54, 3) := by decide +kernel
theorem d_MD_quantify_11 : decode b_MD_quantify 11 = .ok (.ifCond .eq 17, 3) := by decide +kernel
theorem d_MD_quantify_14 : decode b_MD_quantify 14 = .ok (.iload_n 3, 1) := by decide +kernel
theorem d_MD_quantify_15 : decode b_MD_quantify 15 = .ok (.iconst 0, 1) := by decide +kernel
theorem d_MD_quantify_16 : decode b_MD_quantify 16 = .ok (.bipush 63, 2) := by decide +kernel
theorem d_MD_quantify_18 : decode b_MD_quantify 18 = .ok (.invokestatic 40, 3) := by decide +kernel
theorem d_MD_quantify_21 : decode b_MD_quantify 21 = .ok (.ifCond .eq 7, 3) := by decide +kernel
theorem d_MD_quantify_24 : decode b_MD_quantify 24 = .ok (.iconst 1, 1) := by decide +kernel
theorem d_MD_quantify_25 : decode b_MD_quantify 25 = .ok (.goto 4, 3) := by decide +kernel
theorem d_MD_quantify_28 : decode b_MD_quantify 28 = .ok (.iconst 0, 1) := by decide +kernel
theorem d_MD_quantify_29 : decode b_MD_quantify 29 = .ok (.istore 5, 2) := by decide +kernel
theorem d_MD_quantify_31 : decode b_MD_quantify 31 = .ok (.aload_n 0, 1) := by decide +kernel
theorem d_MD_quantify_32 : decode b_MD_quantify 32 = .ok (.iload 5, 2) := by decide +kernel
theorem d_MD_quantify_34 : decode b_MD_quantify 34 = .ok (.ifCond .ne 7, 3) := by decide +kernel
theorem d_MD_quantify_37 : decode b_MD_quantify 37 = .ok (.iconst 1, 1) := by decide +kernel
theorem d_MD_quantify_38 : decode b_MD_quantify 38 = .ok (.goto 17, 3) := by decide +kernel
theorem d_MD_quantify_41 : decode b_MD_quantify 41 = .ok (.aload_n 0, 1) := by decide +kernel
theorem d_MD_quantify_42 : decode b_MD_quantify 42 = .ok (.getfield 13, 3) := by decide +kernel
theorem d_MD_quantify_45 : decode b_MD_quantify 45 = .ok (.iload_n 2, 1) := by decide +kernel
theorem d_MD_quantify_46 : decode b_MD_quantify 46 = .ok (.baload, 1) := by decide +kernel
theorem d_MD_quantify_47 : decode b_MD_quantify 47 = .ok (.ifCond .eq 7, 3) := by decide +kernel
theorem d_MD_quantify_50 : decode b_MD_quantify 50 = .ok (.iconst 0, 1) := by decide +kernel
theorem d_MD_quantify_51 : decode b_MD_quantify 51 = .ok (.goto 4, 3) := by decide +kernel
theorem d_MD_quantify_54 : decode b_MD_quantify 54 = .ok (.iconst 2, 1) := by decide +kernel
theorem d_MD_quantify_55 : decode b_MD_quantify 55 = .ok (.putfield 36, 3) := by decide +kernel
theorem d_MD_quantify_58 : decode b_MD_quantify 58 = .ok (.aload_n 0, 1) := by decide +kernel
theorem d_MD_quantify_59 : decode b_MD_quantify 59 = .ok (.getfield 36, 3) := by decide +kernel
theorem d_MD_quantify_62 : decode b_MD_quantify 62 = .ok (.ifCond .le 4, 3) := by decide +kernel
theorem d_MD_quantify_65 : decode b_MD_quantify 65 = .ok (.return_, 1) := by decide +kernel
theorem d_MD_quantify_66 : decode b_MD_quantify 66 = .ok (.aload_n 0, 1) := by decide +kernel
theorem d_MD_quantify_67 : decode b_MD_quantify 67 = .ok (.getfield 7, 3) := by decide +kernel
theorem d_MD_quantify_70 : decode b_MD_quantify 70 = .ok (.iload_n 2, 1) := by decide +kernel
theorem d_MD_quantify_71 : decode b_MD_quantify 71 = .ok (.laload, 1) := by decide +kernel
theorem d_MD_quantify_72 : decode b_MD_quantify 72 = .ok (.lstore 6, 2) := by decide +kernel
theorem d_MD_quantify_74 : decode b_MD_quantify 74 = .ok (.iconst 0, 1) := by decide +kernel
theorem d_MD_quantify_75 : decode b_MD_quantify 75 = .ok (.istore 8, 2) := by decide +kernel
theorem d_MD_quantify_77 : decode b_MD_quantify 77 = .ok (.iload 8, 2) := by decide +kernel
theorem d_MD_quantify_79 : decode b_MD_quantify 79 = .ok (.bipush 6, 2) := by decide +kernel
theorem d_MD_quantify_81 : decode b_MD_quantify 81 = .ok (.if_icmp .ge 61, 3) := by decide +kernel
theorem d_MD_quantify_84 : decode b_MD_quantify 84 = .ok (.iload_n 3, 1) := by decide +kernel
theorem d_MD_quantify_85 : decode b_MD_quantify 85 = .ok (.iload 8, 2) := by decide +kernel
theorem d_MD_quantify_87 : decode b_MD_quantify 87 = .ok (.ishr, 1) := by decide +kernel
theorem d_MD_quantify_88 : decode b_MD_quantify 88 = .ok (.iconst 1, 1) := by decide +kernel
theorem d_MD_quantify_89 : decode b_MD_quantify 89 = .ok (.iand, 1) := by decide +kernel
theorem d_MD_quantify_90 : decode b_MD_quantify 90 = .ok (.iconst 1, 1) := by decide +kernel
theorem d_MD_quantify_91 : decode b_MD_quantify 91 = .ok (.if_icmp .ne 45, 3) := by decide +kernel
theorem d_MD_quantify_94 : decode b_MD_quantify 94 = .ok (.lload 6, 2) := by decide +kernel
theorem d_MD_quantify_96 : decode b_MD_quantify 96 = .ok (.iload 8, 2) := by decide +kernel
theorem d_MD_quantify_98 : decode b_MD_quantify 98 = .ok (.lconst 0, 1) := by decide +kernel
theorem d_MD_quantify_99 : decode b_MD_quantify 99 = .ok (.invokestatic 48, 3) := by decide +kernel
theorem d_MD_quantify_102 : decode b_MD_quantify 102 = .ok (.lstore 9, 2) := by decide +kernel
theorem d_MD_quantify_104 : decode b_MD_quantify 104 = .ok (.lload 6, 2) := by decide +kernel
theorem d_MD_quantify_106 : decode b_MD_quantify 106 = .ok (.iload 8, 2) := by decide +kernel
theorem d_MD_quantify_108 : decode b_MD_quantify 108 = .ok (.ldc2_w 52, 3) := by decide +kernel
theorem d_MD_quantify_111 : decode b_MD_quantify 111 = .ok (.invokestatic 48, 3) := by decide +kernel
theorem d_MD_quantify_114 : decode b_MD_quantify 114 = .ok (.lstore 11, 2) := by decide +kernel
theorem d_MD_quantify_116 : decode b_MD_quantify 116 = .ok (.iload 4, 2) := by decide +kernel
theorem d_MD_quantify_118 : decode b_MD_quantify 118 = .ok (.ifCond .eq 11, 3) := by decide +kernel
theorem d_MD_quantify_121 : decode b_MD_quantify 121 = .ok (.lload 9, 2) := by decide +kernel
theorem d_MD_quantify_123 : decode b_MD_quantify 123 = .ok (.lload 11, 2) := by decide +kernel
theorem d_MD_quantify_125 : decode b_MD_quantify 125 = .ok (.land, 1) := by decide +kernel
theorem d_MD_quantify_126 : decode b_MD_quantify 126 = .ok (.goto 8, 3) := by decide +kernel
theorem d_MD_quantify_129 : decode b_MD_quantify 129 = .ok (.lload 9, 2) := by decide +kernel
theorem d_MD_quantify_131 : decode b_MD_quantify 131 = .ok (.lload 11, 2) := by decide +kernel
theorem d_MD_quantify_133 : decode b_MD_quantify 133 = .ok (.lor, 1) := by decide +kernel
theorem d_MD_quantify_134 : decode b_MD_quantify 134 = .ok (.lstore 6, 2) := by decide +kernel
theorem d_MD_quantify_136 : decode b_MD_quantify 136 = .ok (.iinc 8 1, 3) := by decide +kernel
theorem d_MD_quantify_139 : decode b_MD_quantify 139 = .ok (.goto (-62), 3) := by decide +kernel
theorem d_MD_quantify_142 : decode b_MD_quantify 142 = .ok (.aload_n 0, 1) := by decide +kernel
theorem d_MD_quantify_143 : decode b_MD_quantify 143 = .ok (.iload_n 1, 1) := by decide +kernel
theorem d_MD_quantify_144 : decode b_MD_quantify 144 = .ok (.lload 6, 2) := by decide +kernel
theorem d_MD_quantify_146 : decode b_MD_quantify 146 = .ok (.invokevirtual 62, 3) := by decide +kernel
theorem d_MD_quantify_149 : decode b_MD_quantify 149 = .ok (.return_, 1) := by decide +kernel
theorem d_MD_release_0 : decode b_MD_release 0 = .ok (.aload_n 0, 1) := by decide +kernel
theorem d_MD_release_1 : decode b_MD_release 1 = .ok (.iload_n 1, 1) := by decide +kernel
theorem d_MD_release_2 : decode b_MD_release 2 = .ok (.invokestatic 54, 3) := by decide +kernel
theorem d_MD_release_5 : decode b_MD_release 5 = .ok (.ifCond .eq 7, 3) := by decide +kernel
theorem d_MD_release_8 : decode b_MD_release 8 = .ok (.iconst 0, 1) := by decide +kernel
theorem d_MD_release_9 : decode b_MD_release 9 = .ok (.goto 4, 3) := by decide +kernel
theorem d_MD_release_12 : decode b_MD_release 12 = .ok (.iconst 1, 1) := by decide +kernel
theorem d_MD_release_13 : decode b_MD_release 13 = .ok (.putfield 36, 3) := by decide +kernel
theorem d_MD_release_16 : decode b_MD_release 16 = .ok (.aload_n 0, 1) := by decide +kernel
theorem d_MD_release_17 : decode b_MD_release 17 = .ok (.getfield 36, 3) := by decide +kernel
theorem d_MD_release_20 : decode b_MD_release 20 = .ok (.ifCond .le 5, 3) := by decide +kernel
theorem d_MD_release_23 : decode b_MD_release 23 = .ok (.iconst 0, 1) := by decide +kernel
theorem d_MD_release_24 : decode b_MD_release 24 = .ok (.ireturn, 1) := by decide +kernel
theorem d_MD_release_25 : decode b_MD_release 25 = .ok (.aload_n 0, 1) := by decide +kernel
theorem d_MD_release_26 : decode b_MD_release 26 = .ok (.getfield 13, 3) := by decide +kernel
theorem d_MD_release_29 : decode b_MD_release 29 = .ok (.iload_n 1, 1) := by decide +kernel
theorem d_MD_release_30 : decode b_MD_release 30 = .ok (.baload, 1) := by decide +kernel
theorem d_MD_release_31 : decode b_MD_release 31 = .ok (.istore_n 2, 1) := by decide +kernel
theorem d_MD_release_32 : decode b_MD_release 32 = .ok (.aload_n 0, 1) := by decide +kernel
theorem d_MD_release_33 : decode b_MD_release 33 = .ok (.getfield 13, 3) := by decide +kernel
theorem d_MD_release_36 : decode b_MD_release 36 = .ok (.iload_n 1, 1) := by decide +kernel
theorem d_MD_release_37 : decode b_MD_release 37 = .ok (.iconst 0, 1) := by decide +kernel
theorem d_MD_release_38 : decode b_MD_release 38 = .ok (.bastore, 1) := by decide +kernel
theorem d_MD_release_39 : decode b_MD_release 39 = .ok (.iload_n 2, 1) := by decide +kernel
theorem d_MD_release_40 : decode b_MD_release 40 = .ok (.ireturn, 1) := by decide +kernel
theorem d_MD_type_0 : decode b_MD_type 0 = .ok (.aload_n 0, 1) := by decide +kernel
theorem d_MD_type_1 : decode b_MD_type 1 = .ok (.iload_n 3, 1) := by decide +kernel
theorem d_MD_type_2 : decode b_MD_type 2 = .ok (.iconst 1, 1) := by decide +kernel
theorem d_MD_type_3 : decode b_MD_type 3 = .ok (.bipush 8, 2) := by decide +kernel
theorem d_MD_type_5 : decode b_MD_type 5 = .ok (.invokestatic 40, 3) := by decide +kernel
theorem d_MD_type_8 : decode b_MD_type 8 = .ok (.ifCond .eq 18, 3) := by decide +kernel
theorem d_MD_type_11 : decode b_MD_type 11 = .ok (.aload_n 0, 1) := by decide +kernel
theorem d_MD_type_12 : decode b_MD_type 12 = .ok (.getfield 66, 3) := by decide +kernel
theorem d_MD_type_15 : decode b_MD_type 15 = .ok (.iload_n 3, 1) := by decide +kernel
theorem d_MD_type_16 : decode b_MD_type 16 = .ok (.iadd, 1) := by decide +kernel
theorem d_MD_type_17 : decode b_MD_type 17 = .ok (.bipush 40, 2) := by decide +kernel
theorem d_MD_type_19 : decode b_MD_type 19 = .ok (.if_icmp .gt 7, 3) := by decide +kernel
theorem d_MD_type_22 : decode b_MD_type 22 = .ok (.iconst 0, 1) := by decide +kernel
theorem d_MD_type_23 : decode b_MD_type 23 = .ok (.goto 4, 3) := by decide +kernel
theorem d_MD_type_26 : decode b_MD_type 26 = .ok (.iconst 1, 1) := by decide +kernel
theorem d_MD_type_27 : decode b_MD_type 27 = .ok (.putfield 36, 3) := by decide +kernel
theorem d_MD_type_30 : decode b_MD_type 30 = .ok (.aload_n 0, 1) := by decide +kernel
theorem d_MD_type_31 : decode b_MD_type 31 = .ok (.getfield 36, 3) := by decide +kernel
theorem d_MD_type_34 : decode b_MD_type 34 = .ok (.ifCond .le 5, 3) := by decide +kernel
theorem d_MD_type_37 : decode b_MD_type 37 = .ok (.iconst 0, 1) := by decide +kernel
theorem d_MD_type_38 : decode b_MD_type 38 = .ok (.ireturn, 1) := by decide +kernel
theorem d_MD_type_39 : decode b_MD_type 39 = .ok (.iload_n 3, 1) := by decide +kernel
theorem d_MD_type_40 : decode b_MD_type 40 = .ok (.iconst 1, 1) := by decide +kernel
theorem d_MD_type_41 : decode b_MD_type 41 = .ok (.isub, 1) := by decide +kernel
theorem d_MD_type_42 : decode b_MD_type 42 = .ok (.istore 4, 2) := by decide +kernel
theorem d_MD_type_44 : decode b_MD_type 44 = .ok (.iload 4, 2) := by decide +kernel
theorem d_MD_type_46 : decode b_MD_type 46 = .ok (.ifCond .lt 40, 3) := by decide +kernel
theorem d_MD_type_49 : decode b_MD_type 49 = .ok (.aload_n 0, 1) := by decide +kernel
theorem d_MD_type_50 : decode b_MD_type 50 = .ok (.getfield 24, 3) := by decide +kernel
theorem d_MD_type_53 : decode b_MD_type 53 = .ok (.aload_n 0, 1) := by decide +kernel
theorem d_MD_type_54 : decode b_MD_type 54 = .ok (.getfield 66, 3) := by decide +kernel
theorem d_MD_type_57 : decode b_MD_type 57 = .ok (.lload_n 1, 1) := by decide +kernel
theorem d_MD_type_58 : decode b_MD_type 58 = .ok (.bipush 8, 2) := by decide +kernel
theorem d_MD_type_60 : decode b_MD_type 60 = .ok (.iload 4, 2) := by decide +kernel
theorem d_MD_type_62 : decode b_MD_type 62 = .ok (.imul, 1) := by decide +kernel
theorem d_MD_type_63 : decode b_MD_type 63 = .ok (.lshr, 1) := by decide +kernel
theorem d_MD_type_64 : decode b_MD_type 64 = .ok (.l2i, 1) := by decide +kernel
theorem d_MD_type_65 : decode b_MD_type 65 = .ok (.sipush 255, 3) := by decide +kernel
theorem d_MD_type_68 : decode b_MD_type 68 = .ok (.iand, 1) := by decide +kernel
theorem d_MD_type_69 : decode b_MD_type 69 = .ok (.iastore, 1) := by decide +kernel
theorem d_MD_type_70 : decode b_MD_type 70 = .ok (.aload_n 0, 1) := by decide +kernel
theorem d_MD_type_71 : decode b_MD_type 71 = .ok (.dup, 1) := by decide +kernel
theorem d_MD_type_72 : decode b_MD_type 72 = .ok (.getfield 66, 3) := by decide +kernel
theorem d_MD_type_75 : decode b_MD_type 75 = .ok (.iconst 1, 1) := by decide +kernel
theorem d_MD_type_76 : decode b_MD_type 76 = .ok (.iadd, 1) := by decide +kernel
theorem d_MD_type_77 : decode b_MD_type 77 = .ok (.putfield 66, 3) := by decide +kernel
theorem d_MD_type_80 : decode b_MD_type 80 = .ok (.iinc 4 (-1), 3) := by decide +kernel
theorem d_MD_type_83 : decode b_MD_type 83 = .ok (.goto (-39), 3) := by decide +kernel
theorem d_MD_type_86 : decode b_MD_type 86 = .ok (.aload_n 0, 1) := by decide +kernel
theorem d_MD_type_87 : decode b_MD_type 87 = .ok (.getfield 66, 3) := by decide +kernel
theorem d_MD_type_90 : decode b_MD_type 90 = .ok (.ireturn, 1) := by decide +kernel
theorem d_MD_read_0 : decode b_MD_read 0 = .ok (.aload_n 0, 1) := by decide +kernel
theorem d_MD_read_1 : decode b_MD_read 1 = .ok (.iload_n 1, 1) := by decide +kernel
theorem d_MD_read_2 : decode b_MD_read 2 = .ok (.invokestatic 54, 3) := by decide +kernel
theorem d_MD_read_5 : decode b_MD_read 5 = .ok (.ifCond .eq 7, 3) := by decide +kernel
theorem d_MD_read_8 : decode b_MD_read 8 = .ok (.iconst 0, 1) := by decide +kernel
theorem d_MD_read_9 : decode b_MD_read 9 = .ok (.goto 4, 3) := by decide +kernel
theorem d_MD_read_12 : decode b_MD_read 12 = .ok (.iconst 1, 1) := by decide +kernel
theorem d_MD_read_13 : decode b_MD_read 13 = .ok (.putfield 36, 3) := by decide +kernel
theorem d_MD_read_16 : decode b_MD_read 16 = .ok (.aload_n 0, 1) := by decide +kernel
theorem d_MD_read_17 : decode b_MD_read 17 = .ok (.getfield 36, 3) := by decide +kernel
theorem d_MD_read_20 : decode b_MD_read 20 = .ok (.ifCond .le 5, 3) := by decide +kernel
theorem d_MD_read_23 : decode b_MD_read 23 = .ok (.iconst 0, 1) := by decide +kernel
theorem d_MD_read_24 : decode b_MD_read 24 = .ok (.ireturn, 1) := by decide +kernel
theorem d_MD_read_25 : decode b_MD_read 25 = .ok (.aload_n 0, 1) := by decide +kernel
theorem d_MD_read_26 : decode b_MD_read 26 = .ok (.getfield 66, 3) := by decide +kernel
theorem d_MD_read_29 : decode b_MD_read 29 = .ok (.istore_n 2, 1) := by decide +kernel
theorem d_MD_read_30 : decode b_MD_read 30 = .ok (.aload_n 0, 1) := by decide +kernel
theorem d_MD_read_31 : decode b_MD_read 31 = .ok (.iconst 0, 1) := by decide +kernel
theorem d_MD_read_32 : decode b_MD_read 32 = .ok (.putfield 66, 3) := by decide +kernel
theorem d_MD_read_35 : decode b_MD_read 35 = .ok (.aload_n 0, 1) := by decide +kernel
theorem d_MD_read_36 : decode b_MD_read 36 = .ok (.iconst 0, 1) := by decide +kernel
theorem d_MD_read_37 : decode b_MD_read 37 = .ok (.putfield 72, 3) := by decide +kernel
theorem d_MD_read_40 : decode b_MD_read 40 = .ok (.aload_n 0, 1) := by decide +kernel
theorem d_MD_read_41 : decode b_MD_read 41 = .ok (.iconst 0, 1) := by decide +kernel
theorem d_MD_read_42 : decode b_MD_read 42 = .ok (.putfield 69, 3) := by decide +kernel
theorem d_MD_read_45 : decode b_MD_read 45 = .ok (.iconst 0, 1) := by decide +kernel
theorem d_MD_read_46 : decode b_MD_read 46 = .ok (.istore_n 3, 1) := by decide +kernel
theorem d_MD_read_47 : decode b_MD_read 47 = .ok (.iconst 0, 1) := by decide +kernel
theorem d_MD_read_48 : decode b_MD_read 48 = .ok (.istore 4, 2) := by decide +kernel
theorem d_MD_read_50 : decode b_MD_read 50 = .ok (.iconst 0, 1) := by decide +kernel
theorem d_MD_read_51 : decode b_MD_read 51 = .ok (.istore 5, 2) := by decide +kernel
theorem d_MD_read_53 : decode b_MD_read 53 = .ok (.iload 5, 2) := by decide +kernel
theorem d_MD_read_55 : decode b_MD_read 55 = .ok (.iload_n 2, 1) := by decide +kernel
theorem d_MD_read_56 : decode b_MD_read 56 = .ok (.if_icmp .ge 142, 3) := by decide +kernel
theorem d_MD_read_59 : decode b_MD_read 59 = .ok (.aload_n 0, 1) := by decide +kernel
theorem d_MD_read_60 : decode b_MD_read 60 = .ok (.getfield 24, 3) := by decide +kernel
theorem d_MD_read_63 : decode b_MD_read 63 = .ok (.iload 5, 2) := by decide +kernel
theorem d_MD_read_65 : decode b_MD_read 65 = .ok (.iaload, 1) := by decide +kernel
theorem d_MD_read_66 : decode b_MD_read 66 = .ok (.istore 6, 2) := by decide +kernel
theorem d_MD_read_68 : decode b_MD_read 68 = .ok (.iload 4, 2) := by decide +kernel
theorem d_MD_read_70 : decode b_MD_read 70 = .ok (.ifCond .ne 51, 3) := by decide +kernel
theorem d_MD_read_73 : decode b_MD_read 73 = .ok (.aload_n 0, 1) := by decide +kernel
theorem d_MD_read_74 : decode b_MD_read 74 = .ok (.iload 6, 2) := by decide +kernel
theorem d_MD_read_76 : decode b_MD_read 76 = .ok (.iload_n 3, 1) := by decide +kernel
theorem d_MD_read_77 : decode b_MD_read 77 = .ok (.invokevirtual 87, 3) := by decide +kernel
theorem d_MD_read_80 : decode b_MD_read 80 = .ok (.istore 7, 2) := by decide +kernel
theorem d_MD_read_82 : decode b_MD_read 82 = .ok (.iload 7, 2) := by decide +kernel
theorem d_MD_read_84 : decode b_MD_read 84 = .ok (.ifCond .ne 6, 3) := by decide +kernel
theorem d_MD_read_87 : decode b_MD_read 87 = .ok (.iload 5, 2) := by decide +kernel
theorem d_MD_read_89 : decode b_MD_read 89 = .ok (.ireturn, 1) := by decide +kernel
theorem d_MD_read_90 : decode b_MD_read 90 = .ok (.iload 6, 2) := by decide +kernel
theorem d_MD_read_92 : decode b_MD_read 92 = .ok (.bipush 40, 2) := by decide +kernel
theorem d_MD_read_94 : decode b_MD_read 94 = .ok (.if_icmp .ne 9, 3) := by decide +kernel
theorem d_MD_read_97 : decode b_MD_read 97 = .ok (.iload_n 3, 1) := by decide +kernel
theorem d_MD_read_98 : decode b_MD_read 98 = .ok (.iconst 1, 1) := by decide +kernel
theorem d_MD_read_99 : decode b_MD_read 99 = .ok (.iadd, 1) := by decide +kernel
theorem d_MD_read_100 : decode b_MD_read 100 = .ok (.goto 4, 3) := by decide +kernel
theorem d_MD_read_103 : decode b_MD_read 103 = .ok (.iload_n 3, 1) := by decide +kernel
theorem d_MD_read_104 : decode b_MD_read 104 = .ok (.istore_n 3, 1) := by decide +kernel
theorem d_MD_read_105 : decode b_MD_read 105 = .ok (.iload 7, 2) := by decide +kernel
theorem d_MD_read_107 : decode b_MD_read 107 = .ok (.iconst 2, 1) := by decide +kernel
theorem d_MD_read_108 : decode b_MD_read 108 = .ok (.if_icmp .ne 7, 3) := by decide +kernel
theorem d_MD_read_111 : decode b_MD_read 111 = .ok (.iconst 1, 1) := by decide +kernel
theorem d_MD_read_112 : decode b_MD_read 112 = .ok (.goto 4, 3) := by decide +kernel
theorem d_MD_read_115 : decode b_MD_read 115 = .ok (.iconst 0, 1) := by decide +kernel
theorem d_MD_read_116 : decode b_MD_read 116 = .ok (.istore 4, 2) := by decide +kernel
theorem d_MD_read_118 : decode b_MD_read 118 = .ok (.goto 74, 3) := by decide +kernel
theorem d_MD_read_121 : decode b_MD_read 121 = .ok (.iload 6, 2) := by decide +kernel
theorem d_MD_read_123 : decode b_MD_read 123 = .ok (.bipush 41, 2) := by decide +kernel
theorem d_MD_read_125 : decode b_MD_read 125 = .ok (.if_icmp .ne 28, 3) := by decide +kernel
theorem d_MD_read_128 : decode b_MD_read 128 = .ok (.iload_n 3, 1) := by decide +kernel
theorem d_MD_read_129 : decode b_MD_read 129 = .ok (.ifCond .le 24, 3) := by decide +kernel
theorem d_MD_read_132 : decode b_MD_read 132 = .ok (.aload_n 0, 1) := by decide +kernel
theorem d_MD_read_133 : decode b_MD_read 133 = .ok (.iconst 1, 1) := by decide +kernel
theorem d_MD_read_134 : decode b_MD_read 134 = .ok (.invokevirtual 91, 3) := by decide +kernel
theorem d_MD_read_137 : decode b_MD_read 137 = .ok (.aload_n 0, 1) := by decide +kernel
theorem d_MD_read_138 : decode b_MD_read 138 = .ok (.dup, 1) := by decide +kernel
theorem d_MD_read_139 : decode b_MD_read 139 = .ok (.getfield 72, 3) := by decide +kernel
theorem d_MD_read_142 : decode b_MD_read 142 = .ok (.iconst 1, 1) := by decide +kernel
theorem d_MD_read_143 : decode b_MD_read 143 = .ok (.isub, 1) := by decide +kernel
theorem d_MD_read_144 : decode b_MD_read 144 = .ok (.putfield 72, 3) := by decide +kernel
theorem d_MD_read_147 : decode b_MD_read 147 = .ok (.iinc 3 (-1), 3) := by decide +kernel
theorem d_MD_read_150 : decode b_MD_read 150 = .ok (.goto 42, 3) := by decide +kernel
theorem d_MD_read_153 : decode b_MD_read 153 = .ok (.iload 6, 2) := by decide +kernel
theorem d_MD_read_155 : decode b_MD_read 155 = .ok (.invokestatic 75, 3) := by decide +kernel
theorem d_MD_read_158 : decode b_MD_read 158 = .ok (.ifCond .le 31, 3) := by decide +kernel
theorem d_MD_read_161 : decode b_MD_read 161 = .ok (.iload 6, 2) := by decide +kernel
theorem d_MD_read_163 : decode b_MD_read 163 = .ok (.bipush 33, 2) := by decide +kernel
theorem d_MD_read_165 : decode b_MD_read 165 = .ok (.if_icmp .eq 24, 3) := by decide +kernel
theorem d_MD_read_168 : decode b_MD_read 168 = .ok (.aload_n 0, 1) := by decide +kernel
theorem d_MD_read_169 : decode b_MD_read 169 = .ok (.iload 6, 2) := by decide +kernel
theorem d_MD_read_171 : decode b_MD_read 171 = .ok (.invokestatic 75, 3) := by decide +kernel
theorem d_MD_read_174 : decode b_MD_read 174 = .ok (.invokevirtual 91, 3) := by decide +kernel
theorem d_MD_read_177 : decode b_MD_read 177 = .ok (.aload_n 0, 1) := by decide +kernel
theorem d_MD_read_178 : decode b_MD_read 178 = .ok (.iload 6, 2) := by decide +kernel
theorem d_MD_read_180 : decode b_MD_read 180 = .ok (.invokevirtual 79, 3) := by decide +kernel
theorem d_MD_read_183 : decode b_MD_read 183 = .ok (.iconst 0, 1) := by decide +kernel
theorem d_MD_read_184 : decode b_MD_read 184 = .ok (.istore 4, 2) := by decide +kernel
theorem d_MD_read_186 : decode b_MD_read 186 = .ok (.goto 6, 3) := by decide +kernel
theorem d_MD_read_189 : decode b_MD_read 189 = .ok (.iload 5, 2) := by decide +kernel
theorem d_MD_read_191 : decode b_MD_read 191 = .ok (.ireturn, 1) := by decide +kernel
theorem d_MD_read_192 : decode b_MD_read 192 = .ok (.iinc 5 1, 3) := by decide +kernel
theorem d_MD_read_195 : decode b_MD_read 195 = .ok (.goto (-142), 3) := by decide +kernel
theorem d_MD_read_198 : decode b_MD_read 198 = .ok (.iload 4, 2) := by decide +kernel
theorem d_MD_read_200 : decode b_MD_read 200 = .ok (.ifCond .eq 7, 3) := by decide +kernel
theorem d_MD_read_203 : decode b_MD_read 203 = .ok (.iload_n 3, 1) := by decide +kernel
theorem d_MD_read_204 : decode b_MD_read 204 = .ok (.ifCond .le 5, 3) := by decide +kernel
theorem d_MD_read_207 : decode b_MD_read 207 = .ok (.iload_n 2, 1) := by decide +kernel
theorem d_MD_read_208 : decode b_MD_read 208 = .ok (.ireturn, 1) := by decide +kernel
theorem d_MD_read_209 : decode b_MD_read 209 = .ok (.aload_n 0, 1) := by decide +kernel
theorem d_MD_read_210 : decode b_MD_read 210 = .ok (.iconst 1, 1) := by decide +kernel
theorem d_MD_read_211 : decode b_MD_read 211 = .ok (.invokevirtual 91, 3) := by decide +kernel
theorem d_MD_read_214 : decode b_MD_read 214 = .ok (.aload_n 0, 1) := by decide +kernel
theorem d_MD_read_215 : decode b_MD_read 215 = .ok (.iload_n 1, 1) := by decide +kernel
theorem d_MD_read_216 : decode b_MD_read 216 = .ok (.aload_n 0, 1) := by decide +kernel
theorem d_MD_read_217 : decode b_MD_read 217 = .ok (.getfield 33, 3) := by decide +kernel
theorem d_MD_read_220 : decode b_MD_read 220 = .ok (.iconst 0, 1) := by decide +kernel
theorem d_MD_read_221 : decode b_MD_read 221 = .ok (.laload, 1) := by decide +kernel
theorem d_MD_read_222 : decode b_MD_read 222 = .ok (.invokevirtual 62, 3) := by decide +kernel
theorem d_MD_read_225 : decode b_MD_read 225 = .ok (.iconst (-1), 1) := by decide +kernel
theorem d_MD_read_226 : decode b_MD_read 226 = .ok (.ireturn, 1) := by decide +kernel
theorem d_MD_begin_0 : decode b_MD_begin 0 = .ok (.iload_n 1, 1) := by decide +kernel
theorem d_MD_begin_1 : decode b_MD_begin 1 = .ok (.bipush 40, 2) := by decide +kernel
theorem d_MD_begin_3 : decode b_MD_begin 3 = .ok (.if_icmp .eq 9, 3) := by decide +kernel
theorem d_MD_begin_6 : decode b_MD_begin 6 = .ok (.iload_n 1, 1) := by decide +kernel
theorem d_MD_begin_7 : decode b_MD_begin 7 = .ok (.bipush 33, 2) := by decide +kernel
theorem d_MD_begin_9 : decode b_MD_begin 9 = .ok (.if_icmp .ne 23, 3) := by decide +kernel
theorem d_MD_begin_12 : decode b_MD_begin 12 = .ok (.iload_n 1, 1) := by decide +kernel
theorem d_MD_begin_13 : decode b_MD_begin 13 = .ok (.bipush 40, 2) := by decide +kernel
theorem d_MD_begin_15 : decode b_MD_begin 15 = .ok (.if_icmp .ne 10, 3) := by decide +kernel
theorem d_MD_begin_18 : decode b_MD_begin 18 = .ok (.iload_n 2, 1) := by decide +kernel
theorem d_MD_begin_19 : decode b_MD_begin 19 = .ok (.iconst 5, 1) := by decide +kernel
theorem d_MD_begin_20 : decode b_MD_begin 20 = .ok (.if_icmp .ne 5, 3) := by decide +kernel
theorem d_MD_begin_23 : decode b_MD_begin 23 = .ok (.iconst 0, 1) := by decide +kernel
theorem d_MD_begin_24 : decode b_MD_begin 24 = .ok (.ireturn, 1) := by decide +kernel
theorem d_MD_begin_25 : decode b_MD_begin 25 = .ok (.aload_n 0, 1) := by decide +kernel
theorem d_MD_begin_26 : decode b_MD_begin 26 = .ok (.iload_n 1, 1) := by decide +kernel
theorem d_MD_begin_27 : decode b_MD_begin 27 = .ok (.invokevirtual 79, 3) := by decide +kernel
theorem d_MD_begin_30 : decode b_MD_begin 30 = .ok (.iconst 1, 1) := by decide +kernel
theorem d_MD_begin_31 : decode b_MD_begin 31 = .ok (.ireturn, 1) := by decide +kernel
theorem d_MD_begin_32 : decode b_MD_begin 32 = .ok (.iload_n 1, 1) := by decide +kernel
theorem d_MD_begin_33 : decode b_MD_begin 33 = .ok (.bipush 48, 2) := by decide +kernel
theorem d_MD_begin_35 : decode b_MD_begin 35 = .ok (.if_icmp .eq 9, 3) := by decide +kernel
theorem d_MD_begin_38 : decode b_MD_begin 38 = .ok (.iload_n 1, 1) := by decide +kernel
theorem d_MD_begin_39 : decode b_MD_begin 39 = .ok (.bipush 49, 2) := by decide +kernel
theorem d_MD_begin_41 : decode b_MD_begin 41 = .ok (.if_icmp .ne 23, 3) := by decide +kernel
theorem d_MD_begin_44 : decode b_MD_begin 44 = .ok (.aload_n 0, 1) := by decide +kernel
theorem d_MD_begin_45 : decode b_MD_begin 45 = .ok (.iload_n 1, 1) := by decide +kernel
theorem d_MD_begin_46 : decode b_MD_begin 46 = .ok (.bipush 49, 2) := by decide +kernel
theorem d_MD_begin_48 : decode b_MD_begin 48 = .ok (.if_icmp .ne 9, 3) := by decide +kernel
theorem d_MD_begin_51 : decode b_MD_begin 51 = .ok (.ldc2_w 52, 3) := by decide +kernel
theorem d_MD_begin_54 : decode b_MD_begin 54 = .ok (.goto 4, 3) := by decide +kernel
theorem d_MD_begin_57 : decode b_MD_begin 57 = .ok (.lconst 0, 1) := by decide +kernel
theorem d_MD_begin_58 : decode b_MD_begin 58 = .ok (.invokevirtual 83, 3) := by decide +kernel
theorem d_MD_begin_61 : decode b_MD_begin 61 = .ok (.goto 69, 3) := by decide +kernel
theorem d_MD_begin_64 : decode b_MD_begin 64 = .ok (.iload_n 1, 1) := by decide +kernel
theorem d_MD_begin_65 : decode b_MD_begin 65 = .ok (.bipush 97, 2) := by decide +kernel
theorem d_MD_begin_67 : decode b_MD_begin 67 = .ok (.bipush 102, 2) := by decide +kernel
theorem d_MD_begin_69 : decode b_MD_begin 69 = .ok (.invokestatic 40, 3) := by decide +kernel
theorem d_MD_begin_72 : decode b_MD_begin 72 = .ok (.ifCond .eq 17, 3) := by decide +kernel
theorem d_MD_begin_75 : decode b_MD_begin 75 = .ok (.aload_n 0, 1) := by decide +kernel
theorem d_MD_begin_76 : decode b_MD_begin 76 = .ok (.iload_n 1, 1) := by decide +kernel
theorem d_MD_begin_77 : decode b_MD_begin 77 = .ok (.bipush 97, 2) := by decide +kernel
theorem d_MD_begin_79 : decode b_MD_begin 79 = .ok (.isub, 1) := by decide +kernel
theorem d_MD_begin_80 : decode b_MD_begin 80 = .ok (.invokestatic 58, 3) := by decide +kernel
theorem d_MD_begin_83 : decode b_MD_begin 83 = .ok (.invokevirtual 83, 3) := by decide +kernel
theorem d_MD_begin_86 : decode b_MD_begin 86 = .ok (.goto 44, 3) := by decide +kernel
theorem d_MD_begin_89 : decode b_MD_begin 89 = .ok (.iload_n 1, 1) := by decide +kernel
theorem d_MD_begin_90 : decode b_MD_begin 90 = .ok (.bipush 65, 2) := by decide +kernel
theorem d_MD_begin_92 : decode b_MD_begin 92 = .ok (.bipush 72, 2) := by decide +kernel
theorem d_MD_begin_94 : decode b_MD_begin 94 = .ok (.invokestatic 40, 3) := by decide +kernel
theorem d_MD_begin_97 : decode b_MD_begin 97 = .ok (.ifCond .eq 31, 3) := by decide +kernel
theorem d_MD_begin_100 : decode b_MD_begin 100 = .ok (.aload_n 0, 1) := by decide +kernel
theorem d_MD_begin_101 : decode b_MD_begin 101 = .ok (.getfield 13, 3) := by decide +kernel
theorem d_MD_begin_104 : decode b_MD_begin 104 = .ok (.iload_n 1, 1) := by decide +kernel
theorem d_MD_begin_105 : decode b_MD_begin 105 = .ok (.bipush 65, 2) := by decide +kernel
theorem d_MD_begin_107 : decode b_MD_begin 107 = .ok (.isub, 1) := by decide +kernel
theorem d_MD_begin_108 : decode b_MD_begin 108 = .ok (.baload, 1) := by decide +kernel
theorem d_MD_begin_109 : decode b_MD_begin 109 = .ok (.ifCond .eq 19, 3) := by decide +kernel
theorem d_MD_begin_112 : decode b_MD_begin 112 = .ok (.aload_n 0, 1) := by decide +kernel
theorem d_MD_begin_113 : decode b_MD_begin 113 = .ok (.aload_n 0, 1) := by decide +kernel
theorem d_MD_begin_114 : decode b_MD_begin 114 = .ok (.getfield 7, 3) := by decide +kernel
theorem d_MD_begin_117 : decode b_MD_begin 117 = .ok (.iload_n 1, 1) := by decide +kernel
theorem d_MD_begin_118 : decode b_MD_begin 118 = .ok (.bipush 65, 2) := by decide +kernel
theorem d_MD_begin_120 : decode b_MD_begin 120 = .ok (.isub, 1) := by decide +kernel
theorem d_MD_begin_121 : decode b_MD_begin 121 = .ok (.laload, 1) := by decide +kernel
theorem d_MD_begin_122 : decode b_MD_begin 122 = .ok (.invokevirtual 83, 3) := by decide +kernel
theorem d_MD_begin_125 : decode b_MD_begin 125 = .ok (.goto 5, 3) := by decide +kernel
theorem d_MD_begin_128 : decode b_MD_begin 128 = .ok (.iconst 0, 1) := by decide +kernel
theorem d_MD_begin_129 : decode b_MD_begin 129 = .ok (.ireturn, 1) := by decide +kernel
theorem d_MD_begin_130 : decode b_MD_begin 130 = .ok (.iconst 2, 1) := by decide +kernel
theorem d_MD_begin_131 : decode b_MD_begin 131 = .ok (.ireturn, 1) := by decide +kernel
theorem d_MD_later_0 : decode b_MD_later 0 = .ok (.aload_n 0, 1) := by decide +kernel
theorem d_MD_later_1 : decode b_MD_later 1 = .ok (.getfield 30, 3) := by decide +kernel
theorem d_MD_later_4 : decode b_MD_later 4 = .ok (.aload_n 0, 1) := by decide +kernel
theorem d_MD_later_5 : decode b_MD_later 5 = .ok (.getfield 72, 3) := by decide +kernel
theorem d_MD_later_8 : decode b_MD_later 8 = .ok (.iload_n 1, 1) := by decide +kernel
theorem d_MD_later_9 : decode b_MD_later 9 = .ok (.iastore, 1) := by decide +kernel
theorem d_MD_later_10 : decode b_MD_later 10 = .ok (.aload_n 0, 1) := by decide +kernel
theorem d_MD_later_11 : decode b_MD_later 11 = .ok (.dup, 1) := by decide +kernel
theorem d_MD_later_12 : decode b_MD_later 12 = .ok (.getfield 72, 3) := by decide +kernel
theorem d_MD_later_15 : decode b_MD_later 15 = .ok (.iconst 1, 1) := by decide +kernel
theorem d_MD_later_16 : decode b_MD_later 16 = .ok (.iadd, 1) := by decide +kernel
theorem d_MD_later_17 : decode b_MD_later 17 = .ok (.putfield 72, 3) := by decide +kernel
theorem d_MD_later_20 : decode b_MD_later 20 = .ok (.return_, 1) := by decide +kernel
theorem d_MD_push_0 : decode b_MD_push 0 = .ok (.aload_n 0, 1) := by decide +kernel
theorem d_MD_push_1 : decode b_MD_push 1 = .ok (.getfield 33, 3) := by decide +kernel
theorem d_MD_push_4 : decode b_MD_push 4 = .ok (.aload_n 0, 1) := by decide +kernel
theorem d_MD_push_5 : decode b_MD_push 5 = .ok (.getfield 69, 3) := by decide +kernel
theorem d_MD_push_8 : decode b_MD_push 8 = .ok (.lload_n 1, 1) := by decide +kernel
theorem d_MD_push_9 : decode b_MD_push 9 = .ok (.lastore, 1) := by decide +kernel
theorem d_MD_push_10 : decode b_MD_push 10 = .ok (.aload_n 0, 1) := by decide +kernel
theorem d_MD_push_11 : decode b_MD_push 11 = .ok (.dup, 1) := by decide +kernel
theorem d_MD_push_12 : decode b_MD_push 12 = .ok (.getfield 69, 3) := by decide +kernel
theorem d_MD_push_15 : decode b_MD_push 15 = .ok (.iconst 1, 1) := by decide +kernel
theorem d_MD_push_16 : decode b_MD_push 16 = .ok (.iadd, 1) := by decide +kernel
theorem d_MD_push_17 : decode b_MD_push 17 = .ok (.putfield 69, 3) := by decide +kernel
theorem d_MD_push_20 : decode b_MD_push 20 = .ok (.return_, 1) := by decide +kernel
theorem d_MD_reduce_0 : decode b_MD_reduce 0 = .ok (.aload_n 0, 1) := by decide +kernel
theorem d_MD_reduce_1 : decode b_MD_reduce 1 = .ok (.getfield 72, 3) := by decide +kernel
theorem d_MD_reduce_4 : decode b_MD_reduce 4 = .ok (.ifCond .le 145, 3) := by decide +kernel
theorem d_MD_reduce_7 : decode b_MD_reduce 7 = .ok (.aload_n 0, 1) := by decide +kernel
theorem d_MD_reduce_8 : decode b_MD_reduce 8 = .ok (.getfield 30, 3) := by decide +kernel
theorem d_MD_reduce_11 : decode b_MD_reduce 11 = .ok (.aload_n 0, 1) := by decide +kernel
theorem d_MD_reduce_12 : decode b_MD_reduce 12 = .ok (.getfield 72, 3) := by decide +kernel
theorem d_MD_reduce_15 : decode b_MD_reduce 15 = .ok (.iconst 1, 1) := by decide +kernel
theorem d_MD_reduce_16 : decode b_MD_reduce 16 = .ok (.isub, 1) := by decide +kernel
theorem d_MD_reduce_17 : decode b_MD_reduce 17 = .ok (.iaload, 1) := by decide +kernel
theorem d_MD_reduce_18 : decode b_MD_reduce 18 = .ok (.invokestatic 75, 3) := by decide +kernel
theorem d_MD_reduce_21 : decode b_MD_reduce 21 = .ok (.iload_n 1, 1) := by decide +kernel
theorem d_MD_reduce_22 : decode b_MD_reduce 22 = .ok (.if_icmp .lt 127, 3) := by decide +kernel
theorem d_MD_reduce_25 : decode b_MD_reduce 25 = .ok (.aload_n 0, 1) := by decide +kernel
theorem d_MD_reduce_26 : decode b_MD_reduce 26 = .ok (.dup, 1) := by decide +kernel
theorem d_MD_reduce_27 : decode b_MD_reduce 27 = .ok (.getfield 72, 3) := by decide +kernel
theorem d_MD_reduce_30 : decode b_MD_reduce 30 = .ok (.iconst 1, 1) := by decide +kernel
theorem d_MD_reduce_31 : decode b_MD_reduce 31 = .ok (.isub, 1) := by decide +kernel
theorem d_MD_reduce_32 : decode b_MD_reduce 32 = .ok (.putfield 72, 3) := by decide +kernel
theorem d_MD_reduce_35 : decode b_MD_reduce 35 = .ok (.aload_n 0, 1) := by decide +kernel
theorem d_MD_reduce_36 : decode b_MD_reduce 36 = .ok (.getfield 30, 3) := by decide +kernel
theorem d_MD_reduce_39 : decode b_MD_reduce 39 = .ok (.aload_n 0, 1) := by decide +kernel
theorem d_MD_reduce_40 : decode b_MD_reduce 40 = .ok (.getfield 72, 3) := by decide +kernel
theorem d_MD_reduce_43 : decode b_MD_reduce 43 = .ok (.iaload, 1) := by decide +kernel
theorem d_MD_reduce_44 : decode b_MD_reduce 44 = .ok (.istore_n 2, 1) := by decide +kernel
