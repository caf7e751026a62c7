theorem d_MD_all_2 : decode b_MD_all 2 = .ok (.iconst 0, 1) := by decide +kernel
theorem d_MD_all_3 : decode b_MD_all 3 = .ok (.istore_n 2, 1) := by decide +kernel
theorem d_MD_all_4 : decode b_MD_all 4 = .ok (.iload_n 2, 1) := by decide +kernel
theorem d_MD_all_5 : decode b_MD_all 5 = .ok (.bipush 6, 2) := by decide +kernel
theorem d_MD_all_7 : decode b_MD_all 7 = .ok (.if_icmp .ge 17, 3) := by decide +kernel
theorem d_MD_all_10 : decode b_MD_all 10 = .ok (.iload_n 1, 1) := by decide +kernel
theorem d_MD_all_11 : decode b_MD_all 11 = .ok (.aload_n 0, 1) := by decide +kernel
theorem d_MD_all_12 : decode b_MD_all 12 = .ok (.iload_n 2, 1) := by decide +kernel
theorem d_MD_all_13 : decode b_MD_all 13 = .ok (.invokevirtual 110, 3) := by decide +kernel
theorem d_MD_all_16 : decode b_MD_all 16 = .ok (.iadd, 1) := by decide +kernel
theorem d_MD_all_17 : decode b_MD_all 17 = .ok (.istore_n 1, 1) := by decide +kernel
theorem d_MD_all_18 : decode b_MD_all 18 = .ok (.iinc 2 1, 3) := by decide +kernel
theorem d_MD_all_21 : decode b_MD_all 21 = .ok (.goto (-17), 3) := by decide +kernel
theorem d_MD_all_24 : decode b_MD_all 24 = .ok (.iload_n 1, 1) := by decide +kernel
theorem d_MD_all_25 : decode b_MD_all 25 = .ok (.ireturn, 1) := by decide +kernel
theorem d_MD_widthOf_0 : decode b_MD_widthOf 0 = .ok (.aload_n 0, 1) := by decide +kernel
theorem d_MD_widthOf_1 : decode b_MD_widthOf 1 = .ok (.iconst 0, 1) := by decide +kernel
theorem d_MD_widthOf_2 : decode b_MD_widthOf 2 = .ok (.putfield 100, 3) := by decide +kernel
theorem d_MD_widthOf_5 : decode b_MD_widthOf 5 = .ok (.iconst 0, 1) := by decide +kernel
theorem d_MD_widthOf_6 : decode b_MD_widthOf 6 = .ok (.istore_n 2, 1) := by decide +kernel
theorem d_MD_widthOf_7 : decode b_MD_widthOf 7 = .ok (.iload_n 2, 1) := by decide +kernel
theorem d_MD_widthOf_8 : decode b_MD_widthOf 8 = .ok (.bipush 8, 2) := by decide +kernel
theorem d_MD_widthOf_10 : decode b_MD_widthOf 10 = .ok (.if_icmp .ge 29, 3) := by decide +kernel
theorem d_MD_widthOf_13 : decode b_MD_widthOf 13 = .ok (.aload_n 0, 1) := by decide +kernel
theorem d_MD_widthOf_14 : decode b_MD_widthOf 14 = .ok (.getfield 13, 3) := by decide +kernel
theorem d_MD_widthOf_17 : decode b_MD_widthOf 17 = .ok (.iload_n 2, 1) := by decide +kernel
theorem d_MD_widthOf_18 : decode b_MD_widthOf 18 = .ok (.baload, 1) := by decide +kernel
theorem d_MD_widthOf_19 : decode b_MD_widthOf 19 = .ok (.ifCond .eq 14, 3) := by decide +kernel
theorem d_MD_widthOf_22 : decode b_MD_widthOf 22 = .ok (.aload_n 0, 1) := by decide +kernel
theorem d_MD_widthOf_23 : decode b_MD_widthOf 23 = .ok (.aload_n 0, 1) := by decide +kernel
theorem d_MD_widthOf_24 : decode b_MD_widthOf 24 = .ok (.getfield 7, 3) := by decide +kernel
theorem d_MD_widthOf_27 : decode b_MD_widthOf 27 = .ok (.iload_n 2, 1) := by decide +kernel
theorem d_MD_widthOf_28 : decode b_MD_widthOf 28 = .ok (.laload, 1) := by decide +kernel
theorem d_MD_widthOf_29 : decode b_MD_widthOf 29 = .ok (.iload_n 1, 1) := by decide +kernel
theorem d_MD_widthOf_30 : decode b_MD_widthOf 30 = .ok (.invokevirtual 106, 3) := by decide +kernel
theorem d_MD_widthOf_33 : decode b_MD_widthOf 33 = .ok (.iinc 2 1, 3) := by decide +kernel
theorem d_MD_widthOf_36 : decode b_MD_widthOf 36 = .ok (.goto (-29), 3) := by decide +kernel
theorem d_MD_widthOf_39 : decode b_MD_widthOf 39 = .ok (.aload_n 0, 1) := by decide +kernel
theorem d_MD_widthOf_40 : decode b_MD_widthOf 40 = .ok (.getfield 100, 3) := by decide +kernel
theorem d_MD_widthOf_43 : decode b_MD_widthOf 43 = .ok (.ireturn, 1) := by decide +kernel
theorem d_MD_width_0 : decode b_MD_width 0 = .ok (.aload_n 0, 1) := by decide +kernel
theorem d_MD_width_1 : decode b_MD_width 1 = .ok (.iload_n 1, 1) := by decide +kernel
theorem d_MD_width_2 : decode b_MD_width 2 = .ok (.iconst 0, 1) := by decide +kernel
theorem d_MD_width_3 : decode b_MD_width 3 = .ok (.iconst 5, 1) := by decide +kernel
theorem d_MD_width_4 : decode b_MD_width 4 = .ok (.invokestatic 40, 3) := by decide +kernel
theorem d_MD_width_7 : decode b_MD_width 7 = .ok (.ifCond .eq 7, 3) := by decide +kernel
theorem d_MD_width_10 : decode b_MD_width 10 = .ok (.iconst 0, 1) := by decide +kernel
theorem d_MD_width_11 : decode b_MD_width 11 = .ok (.goto 4, 3) := by decide +kernel
theorem d_MD_width_14 : decode b_MD_width 14 = .ok (.iconst 1, 1) := by decide +kernel
theorem d_MD_width_15 : decode b_MD_width 15 = .ok (.putfield 36, 3) := by decide +kernel
theorem d_MD_width_18 : decode b_MD_width 18 = .ok (.aload_n 0, 1) := by decide +kernel
theorem d_MD_width_19 : decode b_MD_width 19 = .ok (.getfield 36, 3) := by decide +kernel
theorem d_MD_width_22 : decode b_MD_width 22 = .ok (.ifCond .le 7, 3) := by decide +kernel
theorem d_MD_width_25 : decode b_MD_width 25 = .ok (.iconst 0, 1) := by decide +kernel
theorem d_MD_width_26 : decode b_MD_width 26 = .ok (.goto 8, 3) := by decide +kernel
theorem d_MD_width_29 : decode b_MD_width 29 = .ok (.aload_n 0, 1) := by decide +kernel
theorem d_MD_width_30 : decode b_MD_width 30 = .ok (.iload_n 1, 1) := by decide +kernel
theorem d_MD_width_31 : decode b_MD_width 31 = .ok (.invokevirtual 110, 3) := by decide +kernel
theorem d_MD_width_34 : decode b_MD_width 34 = .ok (.ireturn, 1) := by decide +kernel
theorem d_MD_variable_0 : decode b_MD_variable 0 = .ok (.aload_n 0, 1) := by decide +kernel
theorem d_MD_variable_1 : decode b_MD_variable 1 = .ok (.iload_n 1, 1) := by decide +kernel
theorem d_MD_variable_2 : decode b_MD_variable 2 = .ok (.iconst 0, 1) := by decide +kernel
theorem d_MD_variable_3 : decode b_MD_variable 3 = .ok (.iconst 5, 1) := by decide +kernel
theorem d_MD_variable_4 : decode b_MD_variable 4 = .ok (.invokestatic 40, 3) := by decide +kernel
theorem d_MD_variable_7 : decode b_MD_variable 7 = .ok (.ifCond .eq 7, 3) := by decide +kernel
theorem d_MD_variable_10 : decode b_MD_variable 10 = .ok (.iconst 0, 1) := by decide +kernel
theorem d_MD_variable_11 : decode b_MD_variable 11 = .ok (.goto 4, 3) := by decide +kernel
theorem d_MD_variable_14 : decode b_MD_variable 14 = .ok (.iconst 1, 1) := by decide +kernel
theorem d_MD_variable_15 : decode b_MD_variable 15 = .ok (.putfield 36, 3) := by decide +kernel
theorem d_MD_variable_18 : decode b_MD_variable 18 = .ok (.aload_n 0, 1) := by decide +kernel
theorem d_MD_variable_19 : decode b_MD_variable 19 = .ok (.getfield 36, 3) := by decide +kernel
theorem d_MD_variable_22 : decode b_MD_variable 22 = .ok (.ifCond .le 7, 3) := by decide +kernel
theorem d_MD_variable_25 : decode b_MD_variable 25 = .ok (.iconst 0, 1) := by decide +kernel
theorem d_MD_variable_26 : decode b_MD_variable 26 = .ok (.goto 9, 3) := by decide +kernel
theorem d_MD_variable_29 : decode b_MD_variable 29 = .ok (.aload_n 0, 1) := by decide +kernel
theorem d_MD_variable_30 : decode b_MD_variable 30 = .ok (.getfield 17, 3) := by decide +kernel
theorem d_MD_variable_33 : decode b_MD_variable 33 = .ok (.iload_n 1, 1) := by decide +kernel
theorem d_MD_variable_34 : decode b_MD_variable 34 = .ok (.iaload, 1) := by decide +kernel
theorem d_MD_variable_35 : decode b_MD_variable 35 = .ok (.ireturn, 1) := by decide +kernel
theorem d_MD_swap_0 : decode b_MD_swap 0 = .ok (.aload_n 0, 1) := by decide +kernel
theorem d_MD_swap_1 : decode b_MD_swap 1 = .ok (.iload_n 1, 1) := by decide +kernel
theorem d_MD_swap_2 : decode b_MD_swap 2 = .ok (.iconst 0, 1) := by decide +kernel
theorem d_MD_swap_3 : decode b_MD_swap 3 = .ok (.iconst 4, 1) := by decide +kernel
theorem d_MD_swap_4 : decode b_MD_swap 4 = .ok (.invokestatic 40, 3) := by decide +kernel
theorem d_MD_swap_7 : decode b_MD_swap 7 = .ok (.ifCond .eq 7, 3) := by decide +kernel
theorem d_MD_swap_10 : decode b_MD_swap 10 = .ok (.iconst 0, 1) := by decide +kernel
theorem d_MD_swap_11 : decode b_MD_swap 11 = .ok (.goto 4, 3) := by decide +kernel
theorem d_MD_swap_14 : decode b_MD_swap 14 = .ok (.iconst 1, 1) := by decide +kernel
theorem d_MD_swap_15 : decode b_MD_swap 15 = .ok (.putfield 36, 3) := by decide +kernel
theorem d_MD_swap_18 : decode b_MD_swap 18 = .ok (.aload_n 0, 1) := by decide +kernel
theorem d_MD_swap_19 : decode b_MD_swap 19 = .ok (.getfield 36, 3) := by decide +kernel
theorem d_MD_swap_22 : decode b_MD_swap 22 = .ok (.ifCond .le 5, 3) := by decide +kernel
theorem d_MD_swap_25 : decode b_MD_swap 25 = .ok (.iconst 0, 1) := by decide +kernel
theorem d_MD_swap_26 : decode b_MD_swap 26 = .ok (.ireturn, 1) := by decide +kernel
theorem d_MD_swap_27 : decode b_MD_swap 27 = .ok (.aload_n 0, 1) := by decide +kernel
theorem d_MD_swap_28 : decode b_MD_swap 28 = .ok (.getfield 17, 3) := by decide +kernel
theorem d_MD_swap_31 : decode b_MD_swap 31 = .ok (.iload_n 1, 1) := by decide +kernel
theorem d_MD_swap_32 : decode b_MD_swap 32 = .ok (.iaload, 1) := by decide +kernel
theorem d_MD_swap_33 : decode b_MD_swap 33 = .ok (.istore_n 2, 1) := by decide +kernel
theorem d_MD_swap_34 : decode b_MD_swap 34 = .ok (.aload_n 0, 1) := by decide +kernel
theorem d_MD_swap_35 : decode b_MD_swap 35 = .ok (.getfield 17, 3) := by decide +kernel
theorem d_MD_swap_38 : decode b_MD_swap 38 = .ok (.iload_n 1, 1) := by decide +kernel
theorem d_MD_swap_39 : decode b_MD_swap 39 = .ok (.aload_n 0, 1) := by decide +kernel
theorem d_MD_swap_40 : decode b_MD_swap 40 = .ok (.getfield 17, 3) := by decide +kernel
theorem d_MD_swap_43 : decode b_MD_swap 43 = .ok (.iload_n 1, 1) := by decide +kernel
theorem d_MD_swap_44 : decode b_MD_swap 44 = .ok (.iconst 1, 1) := by decide +kernel
theorem d_MD_swap_45 : decode b_MD_swap 45 = .ok (.iadd, 1) := by decide +kernel
theorem d_MD_swap_46 : decode b_MD_swap 46 = .ok (.iaload, 1) := by decide +kernel
theorem d_MD_swap_47 : decode b_MD_swap 47 = .ok (.iastore, 1) := by decide +kernel
theorem d_MD_swap_48 : decode b_MD_swap 48 = .ok (.aload_n 0, 1) := by decide +kernel
theorem d_MD_swap_49 : decode b_MD_swap 49 = .ok (.getfield 17, 3) := by decide +kernel
theorem d_MD_swap_52 : decode b_MD_swap 52 = .ok (.iload_n 1, 1) := by decide +kernel
theorem d_MD_swap_53 : decode b_MD_swap 53 = .ok (.iconst 1, 1) := by decide +kernel
theorem d_MD_swap_54 : decode b_MD_swap 54 = .ok (.iadd, 1) := by decide +kernel
theorem d_MD_swap_55 : decode b_MD_swap 55 = .ok (.iload_n 2, 1) := by decide +kernel
theorem d_MD_swap_56 : decode b_MD_swap 56 = .ok (.iastore, 1) := by decide +kernel
theorem d_MD_swap_57 : decode b_MD_swap 57 = .ok (.aload_n 0, 1) := by decide +kernel
theorem d_MD_swap_58 : decode b_MD_swap 58 = .ok (.invokevirtual 113, 3) := by decide +kernel
theorem d_MD_swap_61 : decode b_MD_swap 61 = .ok (.ireturn, 1) := by decide +kernel
theorem d_MD_sift_0 : decode b_MD_sift 0 = .ok (.aload_n 0, 1) := by decide +kernel
theorem d_MD_sift_1 : decode b_MD_sift 1 = .ok (.iload_n 1, 1) := by decide +kernel
theorem d_MD_sift_2 : decode b_MD_sift 2 = .ok (.iconst 0, 1) := by decide +kernel
theorem d_MD_sift_3 : decode b_MD_sift 3 = .ok (.iconst 5, 1) := by decide +kernel
theorem d_MD_sift_4 : decode b_MD_sift 4 = .ok (.invokestatic 40, 3) := by decide +kernel
theorem d_MD_sift_7 : decode b_MD_sift 7 = .ok (.ifCond .eq 7, 3) := by decide +kernel
theorem d_MD_sift_10 : decode b_MD_sift 10 = .ok (.iconst 0, 1) := by decide +kernel
theorem d_MD_sift_11 : decode b_MD_sift 11 = .ok (.goto 4, 3) := by decide +kernel
theorem d_MD_sift_14 : decode b_MD_sift 14 = .ok (.iconst 1, 1) := by decide +kernel
theorem d_MD_sift_15 : decode b_MD_sift 15 = .ok (.putfield 36, 3) := by decide +kernel
theorem d_MD_sift_18 : decode b_MD_sift 18 = .ok (.aload_n 0, 1) := by decide +kernel
theorem d_MD_sift_19 : decode b_MD_sift 19 = .ok (.getfield 36, 3) := by decide +kernel
theorem d_MD_sift_22 : decode b_MD_sift 22 = .ok (.ifCond .le 5, 3) := by decide +kernel
theorem d_MD_sift_25 : decode b_MD_sift 25 = .ok (.iconst 0, 1) := by decide +kernel
theorem d_MD_sift_26 : decode b_MD_sift 26 = .ok (.ireturn, 1) := by decide +kernel
theorem d_MD_sift_27 : decode b_MD_sift 27 = .ok (.iconst 0, 1) := by decide +kernel
theorem d_MD_sift_28 : decode b_MD_sift 28 = .ok (.istore_n 2, 1) := by decide +kernel
theorem d_MD_sift_29 : decode b_MD_sift 29 = .ok (.iload_n 2, 1) := by decide +kernel
theorem d_MD_sift_30 : decode b_MD_sift 30 = .ok (.bipush 6, 2) := by decide +kernel
theorem d_MD_sift_32 : decode b_MD_sift 32 = .ok (.if_icmp .ge 21, 3) := by decide +kernel
theorem d_MD_sift_35 : decode b_MD_sift 35 = .ok (.aload_n 0, 1) := by decide +kernel
theorem d_MD_sift_36 : decode b_MD_sift 36 = .ok (.getfield 21, 3) := by decide +kernel
theorem d_MD_sift_39 : decode b_MD_sift 39 = .ok (.iload_n 2, 1) := by decide +kernel
theorem d_MD_sift_40 : decode b_MD_sift 40 = .ok (.aload_n 0, 1) := by decide +kernel
theorem d_MD_sift_41 : decode b_MD_sift 41 = .ok (.getfield 17, 3) := by decide +kernel
theorem d_MD_sift_44 : decode b_MD_sift 44 = .ok (.iload_n 2, 1) := by decide +kernel
theorem d_MD_sift_45 : decode b_MD_sift 45 = .ok (.iaload, 1) := by decide +kernel
theorem d_MD_sift_46 : decode b_MD_sift 46 = .ok (.iastore, 1) := by decide +kernel
theorem d_MD_sift_47 : decode b_MD_sift 47 = .ok (.iinc 2 1, 3) := by decide +kernel
theorem d_MD_sift_50 : decode b_MD_sift 50 = .ok (.goto (-21), 3) := by decide +kernel
theorem d_MD_sift_53 : decode b_MD_sift 53 = .ok (.iconst 0, 1) := by decide +kernel
theorem d_MD_sift_54 : decode b_MD_sift 54 = .ok (.istore_n 2, 1) := by decide +kernel
theorem d_MD_sift_55 : decode b_MD_sift 55 = .ok (.sipush 1000, 3) := by decide +kernel
theorem d_MD_sift_58 : decode b_MD_sift 58 = .ok (.istore_n 3, 1) := by decide +kernel
theorem d_MD_sift_59 : decode b_MD_sift 59 = .ok (.iconst 0, 1) := by decide +kernel
theorem d_MD_sift_60 : decode b_MD_sift 60 = .ok (.istore 4, 2) := by decide +kernel
theorem d_MD_sift_62 : decode b_MD_sift 62 = .ok (.iload 4, 2) := by decide +kernel
theorem d_MD_sift_64 : decode b_MD_sift 64 = .ok (.bipush 6, 2) := by decide +kernel
theorem d_MD_sift_66 : decode b_MD_sift 66 = .ok (.if_icmp .ge 48, 3) := by decide +kernel
theorem d_MD_sift_69 : decode b_MD_sift 69 = .ok (.aload_n 0, 1) := by decide +kernel
theorem d_MD_sift_70 : decode b_MD_sift 70 = .ok (.iload_n 1, 1) := by decide +kernel
theorem d_MD_sift_71 : decode b_MD_sift 71 = .ok (.iload 4, 2) := by decide +kernel
theorem d_MD_sift_73 : decode b_MD_sift 73 = .ok (.invokevirtual 117, 3) := by decide +kernel
theorem d_MD_sift_76 : decode b_MD_sift 76 = .ok (.aload_n 0, 1) := by decide +kernel
theorem d_MD_sift_77 : decode b_MD_sift 77 = .ok (.invokevirtual 113, 3) := by decide +kernel
theorem d_MD_sift_80 : decode b_MD_sift 80 = .ok (.istore 5, 2) := by decide +kernel
theorem d_MD_sift_82 : decode b_MD_sift 82 = .ok (.iload 5, 2) := by decide +kernel
theorem d_MD_sift_84 : decode b_MD_sift 84 = .ok (.iload_n 3, 1) := by decide +kernel
theorem d_MD_sift_85 : decode b_MD_sift 85 = .ok (.if_icmp .ge 8, 3) := by decide +kernel
theorem d_MD_sift_88 : decode b_MD_sift 88 = .ok (.iload 4, 2) := by decide +kernel
theorem d_MD_sift_90 : decode b_MD_sift 90 = .ok (.goto 4, 3) := by decide +kernel
theorem d_MD_sift_93 : decode b_MD_sift 93 = .ok (.iload_n 2, 1) := by decide +kernel
theorem d_MD_sift_94 : decode b_MD_sift 94 = .ok (.istore_n 2, 1) := by decide +kernel
theorem d_MD_sift_95 : decode b_MD_sift 95 = .ok (.iload 5, 2) := by decide +kernel
theorem d_MD_sift_97 : decode b_MD_sift 97 = .ok (.iload_n 3, 1) := by decide +kernel
theorem d_MD_sift_98 : decode b_MD_sift 98 = .ok (.if_icmp .ge 8, 3) := by decide +kernel
theorem d_MD_sift_101 : decode b_MD_sift 101 = .ok (.iload 5, 2) := by decide +kernel
theorem d_MD_sift_103 : decode b_MD_sift 103 = .ok (.goto 4, 3) := by decide +kernel
theorem d_MD_sift_106 : decode b_MD_sift 106 = .ok (.iload_n 3, 1) := by decide +kernel
theorem d_MD_sift_107 : decode b_MD_sift 107 = .ok (.istore_n 3, 1) := by decide +kernel
theorem d_MD_sift_108 : decode b_MD_sift 108 = .ok (.iinc 4 1, 3) := by decide +kernel
theorem d_MD_sift_111 : decode b_MD_sift 111 = .ok (.goto (-49), 3) := by decide +kernel
theorem d_MD_sift_114 : decode b_MD_sift 114 = .ok (.aload_n 0, 1) := by decide +kernel
theorem d_MD_sift_115 : decode b_MD_sift 115 = .ok (.iload_n 1, 1) := by decide +kernel
theorem d_MD_sift_116 : decode b_MD_sift 116 = .ok (.iload_n 2, 1) := by decide +kernel
theorem d_MD_sift_117 : decode b_MD_sift 117 = .ok (.invokevirtual 117, 3) := by decide +kernel
theorem d_MD_sift_120 : decode b_MD_sift 120 = .ok (.iload_n 2, 1) := by decide +kernel
theorem d_MD_sift_121 : decode b_MD_sift 121 = .ok (.ireturn, 1) := by decide +kernel
theorem d_MD_arrange_0 : decode b_MD_arrange 0 = .ok (.iconst 0, 1) := by decide +kernel
theorem d_MD_arrange_1 : decode b_MD_arrange 1 = .ok (.istore_n 3, 1) := by decide +kernel
theorem d_MD_arrange_2 : decode b_MD_arrange 2 = .ok (.iconst 0, 1) := by decide +kernel
theorem d_MD_arrange_3 : decode b_MD_arrange 3 = .ok (.istore 4, 2) := by decide +kernel
theorem d_MD_arrange_5 : decode b_MD_arrange 5 = .ok (.iload 4, 2) := by decide +kernel
theorem d_MD_arrange_7 : decode b_MD_arrange 7 = .ok (.bipush 6, 2) := by decide +kernel
theorem d_MD_arrange_9 : decode b_MD_arrange 9 = .ok (.if_icmp .ge 60, 3) := by decide +kernel
theorem d_MD_arrange_12 : decode b_MD_arrange 12 = .ok (.iload 4, 2) := by decide +kernel
theorem d_MD_arrange_14 : decode b_MD_arrange 14 = .ok (.iload_n 2, 1) := by decide +kernel
theorem d_MD_arrange_15 : decode b_MD_arrange 15 = .ok (.if_icmp .ne 14, 3) := by decide +kernel
theorem d_MD_arrange_18 : decode b_MD_arrange 18 = .ok (.aload_n 0, 1) := by decide +kernel
theorem d_MD_arrange_19 : decode b_MD_arrange 19 = .ok (.getfield 17, 3) := by decide +kernel
theorem d_MD_arrange_22 : decode b_MD_arrange 22 = .ok (.iload 4, 2) := by decide +kernel
theorem d_MD_arrange_24 : decode b_MD_arrange 24 = .ok (.iload_n 1, 1) := by decide +kernel
theorem d_MD_arrange_25 : decode b_MD_arrange 25 = .ok (.iastore, 1) := by decide +kernel
theorem d_MD_arrange_26 : decode b_MD_arrange 26 = .ok (.goto 37, 3) := by decide +kernel
theorem d_MD_arrange_29 : decode b_MD_arrange 29 = .ok (.aload_n 0, 1) := by decide +kernel
theorem d_MD_arrange_30 : decode b_MD_arrange 30 = .ok (.getfield 21, 3) := by decide +kernel
theorem d_MD_arrange_33 : decode b_MD_arrange 33 = .ok (.iload_n 3, 1) := by decide +kernel
theorem d_MD_arrange_34 : decode b_MD_arrange 34 = .ok (.iaload, 1) := by decide +kernel
theorem d_MD_arrange_35 : decode b_MD_arrange 35 = .ok (.iload_n 1, 1) := by decide +kernel
theorem d_MD_arrange_36 : decode b_MD_arrange 36 = .ok (.if_icmp .ne 9, 3) := by decide +kernel
theorem d_MD_arrange_39 : decode b_MD_arrange 39 = .ok (.iload_n 3, 1) := by decide +kernel
theorem d_MD_arrange_40 : decode b_MD_arrange 40 = .ok (.iconst 1, 1) := by decide +kernel
theorem d_MD_arrange_41 : decode b_MD_arrange 41 = .ok (.iadd, 1) := by decide +kernel
theorem d_MD_arrange_42 : decode b_MD_arrange 42 = .ok (.goto 4, 3) := by decide +kernel
theorem d_MD_arrange_45 : decode b_MD_arrange 45 = .ok (.iload_n 3, 1) := by decide +kernel
theorem d_MD_arrange_46 : decode b_MD_arrange 46 = .ok (.istore_n 3, 1) := by decide +kernel
theorem d_MD_arrange_47 : decode b_MD_arrange 47 = .ok (.aload_n 0, 1) := by decide +kernel
theorem d_MD_arrange_48 : decode b_MD_arrange 48 = .ok (.getfield 17, 3) := by decide +kernel
theorem d_MD_arrange_51 : decode b_MD_arrange 51 = .ok (.iload 4, 2) := by decide +kernel
theorem d_MD_arrange_53 : decode b_MD_arrange 53 = .ok (.aload_n 0, 1) := by decide +kernel
theorem d_MD_arrange_54 : decode b_MD_arrange 54 = .ok (.getfield 21, 3) := by decide +kernel
theorem d_MD_arrange_57 : decode b_MD_arrange 57 = .ok (.iload_n 3, 1) := by decide +kernel
theorem d_MD_arrange_58 : decode b_MD_arrange 58 = .ok (.iaload, 1) := by decide +kernel
theorem d_MD_arrange_59 : decode b_MD_arrange 59 = .ok (.iastore, 1) := by decide +kernel
theorem d_MD_arrange_60 : decode b_MD_arrange 60 = .ok (.iinc 3 1, 3) := by decide +kernel
theorem d_MD_arrange_63 : decode b_MD_arrange 63 = .ok (.iinc 4 1, 3) := by decide +kernel
theorem d_MD_arrange_66 : decode b_MD_arrange 66 = .ok (.goto (-61), 3) := by decide +kernel
theorem d_MD_arrange_69 : decode b_MD_arrange 69 = .ok (.return_, 1) := by decide +kernel
theorem d_LW_law_0 : decode b_LW_law 0 = .ok (.new 8, 3) := by decide +kernel
theorem d_LW_law_3 : decode b_LW_law 3 = .ok (.dup, 1) := by decide +kernel
theorem d_LW_law_4 : decode b_LW_law 4 = .ok (.invokespecial 77, 3) := by decide +kernel
theorem d_LW_law_7 : decode b_LW_law 7 = .ok (.astore_n 1, 1) := by decide +kernel
theorem d_LW_law_8 : decode b_LW_law 8 = .ok (.new 78, 3) := by decide +kernel
theorem d_LW_law_11 : decode b_LW_law 11 = .ok (.dup, 1) := by decide +kernel
theorem d_LW_law_12 : decode b_LW_law 12 = .ok (.invokespecial 80, 3) := by decide +kernel
theorem d_LW_law_15 : decode b_LW_law 15 = .ok (.astore_n 2, 1) := by decide +kernel
theorem d_LW_law_16 : decode b_LW_law 16 = .ok (.iconst 1, 1) := by decide +kernel
theorem d_LW_law_17 : decode b_LW_law 17 = .ok (.newarray .long, 2) := by decide +kernel
theorem d_LW_law_19 : decode b_LW_law 19 = .ok (.astore_n 3, 1) := by decide +kernel
theorem d_LW_law_20 : decode b_LW_law 20 = .ok (.iconst 0, 1) := by decide +kernel
theorem d_LW_law_21 : decode b_LW_law 21 = .ok (.istore 4, 2) := by decide +kernel
theorem d_LW_law_23 : decode b_LW_law 23 = .ok (.iload 4, 2) := by decide +kernel
theorem d_LW_law_25 : decode b_LW_law 25 = .ok (.aload_n 0, 1) := by decide +kernel
theorem d_LW_law_26 : decode b_LW_law 26 = .ok (.arraylength, 1) := by decide +kernel
theorem d_LW_law_27 : decode b_LW_law 27 = .ok (.iconst 5, 1) := by decide +kernel
theorem d_LW_law_28 : decode b_LW_law 28 = .ok (.isub, 1) := by decide +kernel
theorem d_LW_law_29 : decode b_LW_law 29 = .ok (.if_icmp .gt 1379, 3) := by decide +kernel
theorem d_LW_law_32 : decode b_LW_law 32 = .ok (.aload_n 0, 1) := by decide +kernel
theorem d_LW_law_33 : decode b_LW_law 33 = .ok (.iload 4, 2) := by decide +kernel
theorem d_LW_law_35 : decode b_LW_law 35 = .ok (.iaload, 1) := by decide +kernel
theorem d_LW_law_36 : decode b_LW_law 36 = .ok (.bipush 31, 2) := by decide +kernel
theorem d_LW_law_38 : decode b_LW_law 38 = .ok (.iand, 1) := by decide +kernel
theorem d_LW_law_39 : decode b_LW_law 39 = .ok (.tableswitch 1363 0 19 #[93, 141, 213, 285, 373, 445, 533, 633, 689, 752, 827, 902, 958, 1014, 1070, 1126, 1139, 1195, 1251, 1307], 93) := by decide +kernel
theorem d_LW_law_132 : decode b_LW_law 132 = .ok (.aload_n 1, 1) := by decide +kernel
theorem d_LW_law_133 : decode b_LW_law 133 = .ok (.aload_n 0, 1) := by decide +kernel
theorem d_LW_law_134 : decode b_LW_law 134 = .ok (.iload 4, 2) := by decide +kernel
theorem d_LW_law_136 : decode b_LW_law 136 = .ok (.iconst 1, 1) := by decide +kernel
theorem d_LW_law_137 : decode b_LW_law 137 = .ok (.iadd, 1) := by decide +kernel
theorem d_LW_law_138 : decode b_LW_law 138 = .ok (.iaload, 1) := by decide +kernel
theorem d_LW_law_139 : decode b_LW_law 139 = .ok (.aload_n 0, 1) := by decide +kernel
theorem d_LW_law_140 : decode b_LW_law 140 = .ok (.iload 4, 2) := by decide +kernel
theorem d_LW_law_142 : decode b_LW_law 142 = .ok (.iconst 2, 1) := by decide +kernel
theorem d_LW_law_143 : decode b_LW_law 143 = .ok (.iadd, 1) := by decide +kernel
theorem d_LW_law_144 : decode b_LW_law 144 = .ok (.iaload, 1) := by decide +kernel
theorem d_LW_law_145 : decode b_LW_law 145 = .ok (.invokestatic 81, 3) := by decide +kernel
theorem d_LW_law_148 : decode b_LW_law 148 = .ok (.istore 5, 2) := by decide +kernel
theorem d_LW_law_150 : decode b_LW_law 150 = .ok (.aload_n 2, 1) := by decide +kernel
theorem d_LW_law_151 : decode b_LW_law 151 = .ok (.aload_n 0, 1) := by decide +kernel
theorem d_LW_law_152 : decode b_LW_law 152 = .ok (.iload 4, 2) := by decide +kernel
theorem d_LW_law_154 : decode b_LW_law 154 = .ok (.iconst 1, 1) := by decide +kernel
theorem d_LW_law_155 : decode b_LW_law 155 = .ok (.iadd, 1) := by decide +kernel
theorem d_LW_law_156 : decode b_LW_law 156 = .ok (.iaload, 1) := by decide +kernel
theorem d_LW_law_157 : decode b_LW_law 157 = .ok (.aload_n 0, 1) := by decide +kernel
theorem d_LW_law_158 : decode b_LW_law 158 = .ok (.iload 4, 2) := by decide +kernel
theorem d_LW_law_160 : decode b_LW_law 160 = .ok (.iconst 2, 1) := by decide +kernel
theorem d_LW_law_161 : decode b_LW_law 161 = .ok (.iadd, 1) := by decide +kernel
theorem d_LW_law_162 : decode b_LW_law 162 = .ok (.iaload, 1) := by decide +kernel
theorem d_LW_law_163 : decode b_LW_law 163 = .ok (.invokevirtual 86, 3) := by decide +kernel
theorem d_LW_law_166 : decode b_LW_law 166 = .ok (.aload_n 2, 1) := by decide +kernel
theorem d_LW_law_167 : decode b_LW_law 167 = .ok (.invokevirtual 87, 3) := by decide +kernel
theorem d_LW_law_170 : decode b_LW_law 170 = .ok (.iload 5, 2) := by decide +kernel
theorem d_LW_law_172 : decode b_LW_law 172 = .ok (.if_icmp .eq 5, 3) := by decide +kernel
theorem d_LW_law_175 : decode b_LW_law 175 = .ok (.iconst 0, 1) := by decide +kernel
theorem d_LW_law_176 : decode b_LW_law 176 = .ok (.ireturn, 1) := by decide +kernel
theorem d_LW_law_177 : decode b_LW_law 177 = .ok (.goto 1225, 3) := by decide +kernel
theorem d_LW_law_180 : decode b_LW_law 180 = .ok (.aload_n 1, 1) := by decide +kernel
theorem d_LW_law_181 : decode b_LW_law 181 = .ok (.aload_n 0, 1) := by decide +kernel
theorem d_LW_law_182 : decode b_LW_law 182 = .ok (.iload 4, 2) := by decide +kernel
theorem d_LW_law_184 : decode b_LW_law 184 = .ok (.iconst 1, 1) := by decide +kernel
theorem d_LW_law_185 : decode b_LW_law 185 = .ok (.iadd, 1) := by decide +kernel
theorem d_LW_law_186 : decode b_LW_law 186 = .ok (.iaload, 1) := by decide +kernel
theorem d_LW_law_187 : decode b_LW_law 187 = .ok (.aload_n 0, 1) := by decide +kernel
theorem d_LW_law_188 : decode b_LW_law 188 = .ok (.iload 4, 2) := by decide +kernel
theorem d_LW_law_190 : decode b_LW_law 190 = .ok (.iconst 2, 1) := by decide +kernel
theorem d_LW_law_191 : decode b_LW_law 191 = .ok (.iadd, 1) := by decide +kernel
theorem d_LW_law_192 : decode b_LW_law 192 = .ok (.iaload, 1) := by decide +kernel
theorem d_LW_law_193 : decode b_LW_law 193 = .ok (.aload_n 0, 1) := by decide +kernel
theorem d_LW_law_194 : decode b_LW_law 194 = .ok (.iload 4, 2) := by decide +kernel
theorem d_LW_law_196 : decode b_LW_law 196 = .ok (.iconst 3, 1) := by decide +kernel
theorem d_LW_law_197 : decode b_LW_law 197 = .ok (.iadd, 1) := by decide +kernel
theorem d_LW_law_198 : decode b_LW_law 198 = .ok (.iaload, 1) := by decide +kernel
theorem d_LW_law_199 : decode b_LW_law 199 = .ok (.aload_n 0, 1) := by decide +kernel
theorem d_LW_law_200 : decode b_LW_law 200 = .ok (.iload 4, 2) := by decide +kernel
theorem d_LW_law_202 : decode b_LW_law 202 = .ok (.iconst 4, 1) := by decide +kernel
theorem d_LW_law_203 : decode b_LW_law 203 = .ok (.iadd, 1) := by decide +kernel
theorem d_LW_law_204 : decode b_LW_law 204 = .ok (.iaload, 1) := by decide +kernel
theorem d_LW_law_205 : decode b_LW_law 205 = .ok (.invokestatic 91, 3) := by decide +kernel
theorem d_LW_law_208 : decode b_LW_law 208 = .ok (.istore 5, 2) := by decide +kernel
theorem d_LW_law_210 : decode b_LW_law 210 = .ok (.aload_n 2, 1) := by decide +kernel
theorem d_LW_law_211 : decode b_LW_law 211 = .ok (.aload_n 0, 1) := by decide +kernel
theorem d_LW_law_212 : decode b_LW_law 212 = .ok (.iload 4, 2) := by decide +kernel
theorem d_LW_law_214 : decode b_LW_law 214 = .ok (.iconst 1, 1) := by decide +kernel
theorem d_LW_law_215 : decode b_LW_law 215 = .ok (.iadd, 1) := by decide +kernel
theorem d_LW_law_216 : decode b_LW_law 216 = .ok (.iaload, 1) := by decide +kernel
theorem d_LW_law_217 : decode b_LW_law 217 = .ok (.aload_n 0, 1) := by decide +kernel
theorem d_LW_law_218 : decode b_LW_law 218 = .ok (.iload 4, 2) := by decide +kernel
theorem d_LW_law_220 : decode b_LW_law 220 = .ok (.iconst 2, 1) := by decide +kernel
theorem d_LW_law_221 : decode b_LW_law 221 = .ok (.iadd, 1) := by decide +kernel
theorem d_LW_law_222 : decode b_LW_law 222 = .ok (.iaload, 1) := by decide +kernel
theorem d_LW_law_223 : decode b_LW_law 223 = .ok (.aload_n 0, 1) := by decide +kernel
theorem d_LW_law_224 : decode b_LW_law 224 = .ok (.iload 4, 2) := by decide +kernel
theorem d_LW_law_226 : decode b_LW_law 226 = .ok (.iconst 3, 1) := by decide +kernel
theorem d_LW_law_227 : decode b_LW_law 227 = .ok (.iadd, 1) := by decide +kernel
theorem d_LW_law_228 : decode b_LW_law 228 = .ok (.iaload, 1) := by decide +kernel
theorem d_LW_law_229 : decode b_LW_law 229 = .ok (.aload_n 0, 1) := by decide +kernel
theorem d_LW_law_230 : decode b_LW_law 230 = .ok (.iload 4, 2) := by decide +kernel
theorem d_LW_law_232 : decode b_LW_law 232 = .ok (.iconst 4, 1) := by decide +kernel
theorem d_LW_law_233 : decode b_LW_law 233 = .ok (.iadd, 1) := by decide +kernel
theorem d_LW_law_234 : decode b_LW_law 234 = .ok (.iaload, 1) := by decide +kernel
theorem d_LW_law_235 : decode b_LW_law 235 = .ok (.invokevirtual 94, 3) := by decide +kernel
theorem d_LW_law_238 : decode b_LW_law 238 = .ok (.aload_n 2, 1) := by decide +kernel
theorem d_LW_law_239 : decode b_LW_law 239 = .ok (.invokevirtual 87, 3) := by decide +kernel
theorem d_LW_law_242 : decode b_LW_law 242 = .ok (.iload 5, 2) := by decide +kernel
theorem d_LW_law_244 : decode b_LW_law 244 = .ok (.if_icmp .eq 5, 3) := by decide +kernel
theorem d_LW_law_247 : decode b_LW_law 247 = .ok (.iconst 0, 1) := by decide +kernel
theorem d_LW_law_248 : decode b_LW_law 248 = .ok (.ireturn, 1) := by decide +kernel
theorem d_LW_law_249 : decode b_LW_law 249 = .ok (.goto 1153, 3) := by decide +kernel
theorem d_LW_law_252 : decode b_LW_law 252 = .ok (.aload_n 1, 1) := by decide +kernel
theorem d_LW_law_253 : decode b_LW_law 253 = .ok (.aload_n 0, 1) := by decide +kernel
theorem d_LW_law_254 : decode b_LW_law 254 = .ok (.iload 4, 2) := by decide +kernel
theorem d_LW_law_256 : decode b_LW_law 256 = .ok (.iconst 1, 1) := by decide +kernel
theorem d_LW_law_257 : decode b_LW_law 257 = .ok (.iadd, 1) := by decide +kernel
theorem d_LW_law_258 : decode b_LW_law 258 = .ok (.iaload, 1) := by decide +kernel
theorem d_LW_law_259 : decode b_LW_law 259 = .ok (.aload_n 0, 1) := by decide +kernel
theorem d_LW_law_260 : decode b_LW_law 260 = .ok (.iload 4, 2) := by decide +kernel
theorem d_LW_law_262 : decode b_LW_law 262 = .ok (.iconst 2, 1) := by decide +kernel
theorem d_LW_law_263 : decode b_LW_law 263 = .ok (.iadd, 1) := by decide +kernel
theorem d_LW_law_264 : decode b_LW_law 264 = .ok (.iaload, 1) := by decide +kernel
theorem d_LW_law_265 : decode b_LW_law 265 = .ok (.aload_n 0, 1) := by decide +kernel
theorem d_LW_law_266 : decode b_LW_law 266 = .ok (.iload 4, 2) := by decide +kernel
theorem d_LW_law_268 : decode b_LW_law 268 = .ok (.iconst 3, 1) := by decide +kernel
theorem d_LW_law_269 : decode b_LW_law 269 = .ok (.iadd, 1) := by decide +kernel
theorem d_LW_law_270 : decode b_LW_law 270 = .ok (.iaload, 1) := by decide +kernel
theorem d_LW_law_271 : decode b_LW_law 271 = .ok (.aload_n 0, 1) := by decide +kernel
theorem d_LW_law_272 : decode b_LW_law 272 = .ok (.iload 4, 2) := by decide +kernel
theorem d_LW_law_274 : decode b_LW_law 274 = .ok (.iconst 4, 1) := by decide +kernel
theorem d_LW_law_275 : decode b_LW_law 275 = .ok (.iadd, 1) := by decide +kernel
theorem d_LW_law_276 : decode b_LW_law 276 = .ok (.iaload, 1) := by decide +kernel
theorem d_LW_law_277 : decode b_LW_law 277 = .ok (.invokestatic 95, 3) := by decide +kernel
theorem d_LW_law_280 : decode b_LW_law 280 = .ok (.istore 5, 2) := by decide +kernel
theorem d_LW_law_282 : decode b_LW_law 282 = .ok (.aload_n 2, 1) := by decide +kernel
theorem d_LW_law_283 : decode b_LW_law 283 = .ok (.aload_n 0, 1) := by decide +kernel
theorem d_LW_law_284 : decode b_LW_law 284 = .ok (.iload 4, 2) := by decide +kernel
theorem d_LW_law_286 : decode b_LW_law 286 = .ok (.iconst 1, 1) := by decide +kernel
theorem d_LW_law_287 : decode b_LW_law 287 = .ok (.iadd, 1) := by decide +kernel
theorem d_LW_law_288 : decode b_LW_law 288 = .ok (.iaload, 1) := by decide +kernel
theorem d_LW_law_289 : decode b_LW_law 289 = .ok (.aload_n 0, 1) := by decide +kernel
theorem d_LW_law_290 : decode b_LW_law 290 = .ok (.iload 4, 2) := by decide +kernel
theorem d_LW_law_292 : decode b_LW_law 292 = .ok (.iconst 2, 1) := by decide +kernel
theorem d_LW_law_293 : decode b_LW_law 293 = .ok (.iadd, 1) := by decide +kernel
theorem d_LW_law_294 : decode b_LW_law 294 = .ok (.iaload, 1) := by decide +kernel
theorem d_LW_law_295 : decode b_LW_law 295 = .ok (.aload_n 0, 1) := by decide +kernel
theorem d_LW_law_296 : decode b_LW_law 296 = .ok (.iload 4, 2) := by decide +kernel
theorem d_LW_law_298 : decode b_LW_law 298 = .ok (.iconst 3, 1) := by decide +kernel
theorem d_LW_law_299 : decode b_LW_law 299 = .ok (.iadd, 1) := by decide +kernel
theorem d_LW_law_300 : decode b_LW_law 300 = .ok (.iaload, 1) := by decide +kernel
theorem d_LW_law_301 : decode b_LW_law 301 = .ok (.aload_n 0, 1) := by decide +kernel
theorem d_LW_law_302 : decode b_LW_law 302 = .ok (.iload 4, 2) := by decide +kernel
theorem d_LW_law_304 : decode b_LW_law 304 = .ok (.iconst 4, 1) := by decide +kernel
theorem d_LW_law_305 : decode b_LW_law 305 = .ok (.iadd, 1) := by decide +kernel
theorem d_LW_law_306 : decode b_LW_law 306 = .ok (.iaload, 1) := by decide +kernel
theorem d_LW_law_307 : decode b_LW_law 307 = .ok (.invokevirtual 97, 3) := by decide +kernel
theorem d_LW_law_310 : decode b_LW_law 310 = .ok (.aload_n 2, 1) := by decide +kernel
theorem d_LW_law_311 : decode b_LW_law 311 = .ok (.invokevirtual 87, 3) := by decide +kernel
theorem d_LW_law_314 : decode b_LW_law 314 = .ok (.iload 5, 2) := by decide +kernel
theorem d_LW_law_316 : decode b_LW_law 316 = .ok (.if_icmp .eq 5, 3) := by decide +kernel
theorem d_LW_law_319 : decode b_LW_law 319 = .ok (.iconst 0, 1) := by decide +kernel
theorem d_LW_law_320 : decode b_LW_law 320 = .ok (.ireturn, 1) := by decide +kernel
theorem d_LW_law_321 : decode b_LW_law 321 = .ok (.goto 1081, 3) := by decide +kernel
theorem d_LW_law_324 : decode b_LW_law 324 = .ok (.aload_n 1, 1) := by decide +kernel
theorem d_LW_law_325 : decode b_LW_law 325 = .ok (.aload_n 0, 1) := by decide +kernel
theorem d_LW_law_326 : decode b_LW_law 326 = .ok (.iload 4, 2) := by decide +kernel
theorem d_LW_law_328 : decode b_LW_law 328 = .ok (.iconst 1, 1) := by decide +kernel
theorem d_LW_law_329 : decode b_LW_law 329 = .ok (.iadd, 1) := by decide +kernel
theorem d_LW_law_330 : decode b_LW_law 330 = .ok (.iaload, 1) := by decide +kernel
theorem d_LW_law_331 : decode b_LW_law 331 = .ok (.aload_n 0, 1) := by decide +kernel
theorem d_LW_law_332 : decode b_LW_law 332 = .ok (.iload 4, 2) := by decide +kernel
theorem d_LW_law_334 : decode b_LW_law 334 = .ok (.iconst 2, 1) := by decide +kernel
theorem d_LW_law_335 : decode b_LW_law 335 = .ok (.iadd, 1) := by decide +kernel
theorem d_LW_law_336 : decode b_LW_law 336 = .ok (.iaload, 1) := by decide +kernel
theorem d_LW_law_337 : decode b_LW_law 337 = .ok (.aload_n 0, 1) := by decide +kernel
