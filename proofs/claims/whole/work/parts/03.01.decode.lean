theorem d_SG_look_23 : decode b_SG_look 23 = .ok (.iload_n 1, 1) := by decide +kernel
theorem d_SG_look_24 : decode b_SG_look 24 = .ok (.invokevirtual 141, 3) := by decide +kernel
theorem d_SG_look_27 : decode b_SG_look 27 = .ok (.lreturn, 1) := by decide +kernel
theorem d_TB_connected_0 : decode b_TB_connected 0 = .ok (.lconst 0, 1) := by decide +kernel
theorem d_TB_connected_1 : decode b_TB_connected 1 = .ok (.lstore 5, 2) := by decide +kernel
theorem d_TB_connected_3 : decode b_TB_connected 3 = .ok (.iload 4, 2) := by decide +kernel
theorem d_TB_connected_5 : decode b_TB_connected 5 = .ok (.iconst 1, 1) := by decide +kernel
theorem d_TB_connected_6 : decode b_TB_connected 6 = .ok (.iand, 1) := by decide +kernel
theorem d_TB_connected_7 : decode b_TB_connected 7 = .ok (.ifCond .eq 19, 3) := by decide +kernel
theorem d_TB_connected_10 : decode b_TB_connected 10 = .ok (.lload 5, 2) := by decide +kernel
theorem d_TB_connected_12 : decode b_TB_connected 12 = .ok (.lload_n 0, 1) := by decide +kernel
theorem d_TB_connected_13 : decode b_TB_connected 13 = .ok (.ldc2_w 15, 3) := by decide +kernel
theorem d_TB_connected_16 : decode b_TB_connected 16 = .ok (.lxor, 1) := by decide +kernel
theorem d_TB_connected_17 : decode b_TB_connected 17 = .ok (.lload_n 2, 1) := by decide +kernel
theorem d_TB_connected_18 : decode b_TB_connected 18 = .ok (.ldc2_w 15, 3) := by decide +kernel
theorem d_TB_connected_21 : decode b_TB_connected 21 = .ok (.lxor, 1) := by decide +kernel
theorem d_TB_connected_22 : decode b_TB_connected 22 = .ok (.land, 1) := by decide +kernel
theorem d_TB_connected_23 : decode b_TB_connected 23 = .ok (.lor, 1) := by decide +kernel
theorem d_TB_connected_24 : decode b_TB_connected 24 = .ok (.lstore 5, 2) := by decide +kernel
theorem d_TB_connected_26 : decode b_TB_connected 26 = .ok (.iload 4, 2) := by decide +kernel
theorem d_TB_connected_28 : decode b_TB_connected 28 = .ok (.iconst 2, 1) := by decide +kernel
theorem d_TB_connected_29 : decode b_TB_connected 29 = .ok (.iand, 1) := by decide +kernel
theorem d_TB_connected_30 : decode b_TB_connected 30 = .ok (.ifCond .eq 15, 3) := by decide +kernel
theorem d_TB_connected_33 : decode b_TB_connected 33 = .ok (.lload 5, 2) := by decide +kernel
theorem d_TB_connected_35 : decode b_TB_connected 35 = .ok (.lload_n 0, 1) := by decide +kernel
theorem d_TB_connected_36 : decode b_TB_connected 36 = .ok (.ldc2_w 15, 3) := by decide +kernel
theorem d_TB_connected_39 : decode b_TB_connected 39 = .ok (.lxor, 1) := by decide +kernel
theorem d_TB_connected_40 : decode b_TB_connected 40 = .ok (.lload_n 2, 1) := by decide +kernel
theorem d_TB_connected_41 : decode b_TB_connected 41 = .ok (.land, 1) := by decide +kernel
theorem d_TB_connected_42 : decode b_TB_connected 42 = .ok (.lor, 1) := by decide +kernel
theorem d_TB_connected_43 : decode b_TB_connected 43 = .ok (.lstore 5, 2) := by decide +kernel
theorem d_TB_connected_45 : decode b_TB_connected 45 = .ok (.iload 4, 2) := by decide +kernel
theorem d_TB_connected_47 : decode b_TB_connected 47 = .ok (.iconst 4, 1) := by decide +kernel
theorem d_TB_connected_48 : decode b_TB_connected 48 = .ok (.iand, 1) := by decide +kernel
theorem d_TB_connected_49 : decode b_TB_connected 49 = .ok (.ifCond .eq 15, 3) := by decide +kernel
theorem d_TB_connected_52 : decode b_TB_connected 52 = .ok (.lload 5, 2) := by decide +kernel
theorem d_TB_connected_54 : decode b_TB_connected 54 = .ok (.lload_n 0, 1) := by decide +kernel
theorem d_TB_connected_55 : decode b_TB_connected 55 = .ok (.lload_n 2, 1) := by decide +kernel
theorem d_TB_connected_56 : decode b_TB_connected 56 = .ok (.ldc2_w 15, 3) := by decide +kernel
theorem d_TB_connected_59 : decode b_TB_connected 59 = .ok (.lxor, 1) := by decide +kernel
theorem d_TB_connected_60 : decode b_TB_connected 60 = .ok (.land, 1) := by decide +kernel
theorem d_TB_connected_61 : decode b_TB_connected 61 = .ok (.lor, 1) := by decide +kernel
theorem d_TB_connected_62 : decode b_TB_connected 62 = .ok (.lstore 5, 2) := by decide +kernel
theorem d_TB_connected_64 : decode b_TB_connected 64 = .ok (.iload 4, 2) := by decide +kernel
theorem d_TB_connected_66 : decode b_TB_connected 66 = .ok (.bipush 8, 2) := by decide +kernel
theorem d_TB_connected_68 : decode b_TB_connected 68 = .ok (.iand, 1) := by decide +kernel
theorem d_TB_connected_69 : decode b_TB_connected 69 = .ok (.ifCond .eq 11, 3) := by decide +kernel
theorem d_TB_connected_72 : decode b_TB_connected 72 = .ok (.lload 5, 2) := by decide +kernel
theorem d_TB_connected_74 : decode b_TB_connected 74 = .ok (.lload_n 0, 1) := by decide +kernel
theorem d_TB_connected_75 : decode b_TB_connected 75 = .ok (.lload_n 2, 1) := by decide +kernel
theorem d_TB_connected_76 : decode b_TB_connected 76 = .ok (.land, 1) := by decide +kernel
theorem d_TB_connected_77 : decode b_TB_connected 77 = .ok (.lor, 1) := by decide +kernel
theorem d_TB_connected_78 : decode b_TB_connected 78 = .ok (.lstore 5, 2) := by decide +kernel
theorem d_TB_connected_80 : decode b_TB_connected 80 = .ok (.lload 5, 2) := by decide +kernel
theorem d_TB_connected_82 : decode b_TB_connected 82 = .ok (.lreturn, 1) := by decide +kernel
theorem d_LW_choose_0 : decode b_LW_choose 0 = .ok (.aload_n 0, 1) := by decide +kernel
theorem d_LW_choose_1 : decode b_LW_choose 1 = .ok (.iload_n 1, 1) := by decide +kernel
theorem d_LW_choose_2 : decode b_LW_choose 2 = .ok (.iload_n 2, 1) := by decide +kernel
theorem d_LW_choose_3 : decode b_LW_choose 3 = .ok (.iload_n 3, 1) := by decide +kernel
theorem d_LW_choose_4 : decode b_LW_choose 4 = .ok (.iload 4, 2) := by decide +kernel
theorem d_LW_choose_6 : decode b_LW_choose 6 = .ok (.invokevirtual 21, 3) := by decide +kernel
theorem d_LW_choose_9 : decode b_LW_choose 9 = .ok (.goto 11, 3) := by decide +kernel
theorem d_LW_choose_12 : decode b_LW_choose 12 = .ok (.astore 5, 2) := by decide +kernel
theorem d_LW_choose_14 : decode b_LW_choose 14 = .ok (.iconst 1, 1) := by decide +kernel
theorem d_LW_choose_15 : decode b_LW_choose 15 = .ok (.ireturn, 1) := by decide +kernel
theorem d_LW_choose_16 : decode b_LW_choose 16 = .ok (.astore 5, 2) := by decide +kernel
theorem d_LW_choose_18 : decode b_LW_choose 18 = .ok (.iconst 2, 1) := by decide +kernel
theorem d_LW_choose_19 : decode b_LW_choose 19 = .ok (.ireturn, 1) := by decide +kernel
theorem d_LW_choose_20 : decode b_LW_choose 20 = .ok (.iconst 0, 1) := by decide +kernel
theorem d_LW_choose_21 : decode b_LW_choose 21 = .ok (.ireturn, 1) := by decide +kernel
theorem d_SG_choose_0 : decode b_SG_choose 0 = .ok (.iload_n 1, 1) := by decide +kernel
theorem d_SG_choose_1 : decode b_SG_choose 1 = .ok (.bipush 8, 2) := by decide +kernel
theorem d_SG_choose_3 : decode b_SG_choose 3 = .ok (.invokestatic 42, 3) := by decide +kernel
theorem d_SG_choose_6 : decode b_SG_choose 6 = .ok (.iload_n 2, 1) := by decide +kernel
theorem d_SG_choose_7 : decode b_SG_choose 7 = .ok (.bipush 8, 2) := by decide +kernel
theorem d_SG_choose_9 : decode b_SG_choose 9 = .ok (.invokestatic 42, 3) := by decide +kernel
theorem d_SG_choose_12 : decode b_SG_choose 12 = .ok (.iload_n 3, 1) := by decide +kernel
theorem d_SG_choose_13 : decode b_SG_choose 13 = .ok (.bipush 8, 2) := by decide +kernel
theorem d_SG_choose_15 : decode b_SG_choose 15 = .ok (.invokestatic 42, 3) := by decide +kernel
theorem d_SG_choose_18 : decode b_SG_choose 18 = .ok (.iload 4, 2) := by decide +kernel
theorem d_SG_choose_20 : decode b_SG_choose 20 = .ok (.bipush 8, 2) := by decide +kernel
theorem d_SG_choose_22 : decode b_SG_choose 22 = .ok (.invokestatic 42, 3) := by decide +kernel
theorem d_SG_choose_25 : decode b_SG_choose 25 = .ok (.aload_n 0, 1) := by decide +kernel
theorem d_SG_choose_26 : decode b_SG_choose 26 = .ok (.getfield 12, 3) := by decide +kernel
theorem d_SG_choose_29 : decode b_SG_choose 29 = .ok (.iload_n 1, 1) := by decide +kernel
theorem d_SG_choose_30 : decode b_SG_choose 30 = .ok (.aload_n 0, 1) := by decide +kernel
theorem d_SG_choose_31 : decode b_SG_choose 31 = .ok (.iload_n 2, 1) := by decide +kernel
theorem d_SG_choose_32 : decode b_SG_choose 32 = .ok (.invokevirtual 58, 3) := by decide +kernel
theorem d_SG_choose_35 : decode b_SG_choose 35 = .ok (.aload_n 0, 1) := by decide +kernel
theorem d_SG_choose_36 : decode b_SG_choose 36 = .ok (.iload_n 3, 1) := by decide +kernel
theorem d_SG_choose_37 : decode b_SG_choose 37 = .ok (.invokevirtual 58, 3) := by decide +kernel
theorem d_SG_choose_40 : decode b_SG_choose 40 = .ok (.aload_n 0, 1) := by decide +kernel
theorem d_SG_choose_41 : decode b_SG_choose 41 = .ok (.iload 4, 2) := by decide +kernel
theorem d_SG_choose_43 : decode b_SG_choose 43 = .ok (.invokevirtual 58, 3) := by decide +kernel
theorem d_SG_choose_46 : decode b_SG_choose 46 = .ok (.invokestatic 65, 3) := by decide +kernel
theorem d_SG_choose_49 : decode b_SG_choose 49 = .ok (.invokevirtual 54, 3) := by decide +kernel
theorem d_SG_choose_52 : decode b_SG_choose 52 = .ok (.return_, 1) := by decide +kernel
theorem d_TB_chosen_0 : decode b_TB_chosen 0 = .ok (.lload_n 0, 1) := by decide +kernel
theorem d_TB_chosen_1 : decode b_TB_chosen 1 = .ok (.lload_n 2, 1) := by decide +kernel
theorem d_TB_chosen_2 : decode b_TB_chosen 2 = .ok (.land, 1) := by decide +kernel
theorem d_TB_chosen_3 : decode b_TB_chosen 3 = .ok (.lload_n 0, 1) := by decide +kernel
theorem d_TB_chosen_4 : decode b_TB_chosen 4 = .ok (.ldc2_w 15, 3) := by decide +kernel
theorem d_TB_chosen_7 : decode b_TB_chosen 7 = .ok (.lxor, 1) := by decide +kernel
theorem d_TB_chosen_8 : decode b_TB_chosen 8 = .ok (.lload 4, 2) := by decide +kernel
theorem d_TB_chosen_10 : decode b_TB_chosen 10 = .ok (.land, 1) := by decide +kernel
theorem d_TB_chosen_11 : decode b_TB_chosen 11 = .ok (.lor, 1) := by decide +kernel
theorem d_TB_chosen_12 : decode b_TB_chosen 12 = .ok (.lreturn, 1) := by decide +kernel
theorem d_LW_restrict_0 : decode b_LW_restrict 0 = .ok (.aload_n 0, 1) := by decide +kernel
theorem d_LW_restrict_1 : decode b_LW_restrict 1 = .ok (.iload_n 1, 1) := by decide +kernel
theorem d_LW_restrict_2 : decode b_LW_restrict 2 = .ok (.iload_n 2, 1) := by decide +kernel
theorem d_LW_restrict_3 : decode b_LW_restrict 3 = .ok (.iload_n 3, 1) := by decide +kernel
theorem d_LW_restrict_4 : decode b_LW_restrict 4 = .ok (.iload 4, 2) := by decide +kernel
theorem d_LW_restrict_6 : decode b_LW_restrict 6 = .ok (.invokevirtual 24, 3) := by decide +kernel
theorem d_LW_restrict_9 : decode b_LW_restrict 9 = .ok (.goto 11, 3) := by decide +kernel
theorem d_LW_restrict_12 : decode b_LW_restrict 12 = .ok (.astore 5, 2) := by decide +kernel
theorem d_LW_restrict_14 : decode b_LW_restrict 14 = .ok (.iconst 1, 1) := by decide +kernel
theorem d_LW_restrict_15 : decode b_LW_restrict 15 = .ok (.ireturn, 1) := by decide +kernel
theorem d_LW_restrict_16 : decode b_LW_restrict 16 = .ok (.astore 5, 2) := by decide +kernel
theorem d_LW_restrict_18 : decode b_LW_restrict 18 = .ok (.iconst 2, 1) := by decide +kernel
theorem d_LW_restrict_19 : decode b_LW_restrict 19 = .ok (.ireturn, 1) := by decide +kernel
theorem d_LW_restrict_20 : decode b_LW_restrict 20 = .ok (.iconst 0, 1) := by decide +kernel
theorem d_LW_restrict_21 : decode b_LW_restrict 21 = .ok (.ireturn, 1) := by decide +kernel
theorem d_SG_restrict_0 : decode b_SG_restrict 0 = .ok (.iload_n 1, 1) := by decide +kernel
theorem d_SG_restrict_1 : decode b_SG_restrict 1 = .ok (.bipush 8, 2) := by decide +kernel
theorem d_SG_restrict_3 : decode b_SG_restrict 3 = .ok (.invokestatic 42, 3) := by decide +kernel
theorem d_SG_restrict_6 : decode b_SG_restrict 6 = .ok (.iload_n 2, 1) := by decide +kernel
theorem d_SG_restrict_7 : decode b_SG_restrict 7 = .ok (.bipush 8, 2) := by decide +kernel
theorem d_SG_restrict_9 : decode b_SG_restrict 9 = .ok (.invokestatic 42, 3) := by decide +kernel
theorem d_SG_restrict_12 : decode b_SG_restrict 12 = .ok (.iload_n 3, 1) := by decide +kernel
theorem d_SG_restrict_13 : decode b_SG_restrict 13 = .ok (.bipush 6, 2) := by decide +kernel
theorem d_SG_restrict_15 : decode b_SG_restrict 15 = .ok (.invokestatic 42, 3) := by decide +kernel
theorem d_SG_restrict_18 : decode b_SG_restrict 18 = .ok (.aload_n 0, 1) := by decide +kernel
theorem d_SG_restrict_19 : decode b_SG_restrict 19 = .ok (.iload_n 2, 1) := by decide +kernel
theorem d_SG_restrict_20 : decode b_SG_restrict 20 = .ok (.invokevirtual 58, 3) := by decide +kernel
theorem d_SG_restrict_23 : decode b_SG_restrict 23 = .ok (.lstore 5, 2) := by decide +kernel
theorem d_SG_restrict_25 : decode b_SG_restrict 25 = .ok (.aload_n 0, 1) := by decide +kernel
theorem d_SG_restrict_26 : decode b_SG_restrict 26 = .ok (.getfield 12, 3) := by decide +kernel
theorem d_SG_restrict_29 : decode b_SG_restrict 29 = .ok (.iload_n 1, 1) := by decide +kernel
theorem d_SG_restrict_30 : decode b_SG_restrict 30 = .ok (.iload 4, 2) := by decide +kernel
theorem d_SG_restrict_32 : decode b_SG_restrict 32 = .ok (.ifCond .eq 12, 3) := by decide +kernel
theorem d_SG_restrict_35 : decode b_SG_restrict 35 = .ok (.lload 5, 2) := by decide +kernel
theorem d_SG_restrict_37 : decode b_SG_restrict 37 = .ok (.iload_n 3, 1) := by decide +kernel
theorem d_SG_restrict_38 : decode b_SG_restrict 38 = .ok (.invokestatic 69, 3) := by decide +kernel
theorem d_SG_restrict_41 : decode b_SG_restrict 41 = .ok (.goto 9, 3) := by decide +kernel
theorem d_SG_restrict_44 : decode b_SG_restrict 44 = .ok (.lload 5, 2) := by decide +kernel
theorem d_SG_restrict_46 : decode b_SG_restrict 46 = .ok (.iload_n 3, 1) := by decide +kernel
theorem d_SG_restrict_47 : decode b_SG_restrict 47 = .ok (.invokestatic 73, 3) := by decide +kernel
theorem d_SG_restrict_50 : decode b_SG_restrict 50 = .ok (.invokevirtual 54, 3) := by decide +kernel
theorem d_SG_restrict_53 : decode b_SG_restrict 53 = .ok (.return_, 1) := by decide +kernel
theorem d_LW_compose_0 : decode b_LW_compose 0 = .ok (.aload_n 0, 1) := by decide +kernel
theorem d_LW_compose_1 : decode b_LW_compose 1 = .ok (.iload_n 1, 1) := by decide +kernel
theorem d_LW_compose_2 : decode b_LW_compose 2 = .ok (.iload_n 2, 1) := by decide +kernel
theorem d_LW_compose_3 : decode b_LW_compose 3 = .ok (.iload_n 3, 1) := by decide +kernel
theorem d_LW_compose_4 : decode b_LW_compose 4 = .ok (.iload 4, 2) := by decide +kernel
theorem d_LW_compose_6 : decode b_LW_compose 6 = .ok (.invokevirtual 28, 3) := by decide +kernel
theorem d_LW_compose_9 : decode b_LW_compose 9 = .ok (.goto 11, 3) := by decide +kernel
theorem d_LW_compose_12 : decode b_LW_compose 12 = .ok (.astore 5, 2) := by decide +kernel
theorem d_LW_compose_14 : decode b_LW_compose 14 = .ok (.iconst 1, 1) := by decide +kernel
theorem d_LW_compose_15 : decode b_LW_compose 15 = .ok (.ireturn, 1) := by decide +kernel
theorem d_LW_compose_16 : decode b_LW_compose 16 = .ok (.astore 5, 2) := by decide +kernel
theorem d_LW_compose_18 : decode b_LW_compose 18 = .ok (.iconst 2, 1) := by decide +kernel
theorem d_LW_compose_19 : decode b_LW_compose 19 = .ok (.ireturn, 1) := by decide +kernel
theorem d_LW_compose_20 : decode b_LW_compose 20 = .ok (.iconst 0, 1) := by decide +kernel
theorem d_LW_compose_21 : decode b_LW_compose 21 = .ok (.ireturn, 1) := by decide +kernel
theorem d_SG_compose_0 : decode b_SG_compose 0 = .ok (.iload_n 1, 1) := by decide +kernel
theorem d_SG_compose_1 : decode b_SG_compose 1 = .ok (.bipush 8, 2) := by decide +kernel
theorem d_SG_compose_3 : decode b_SG_compose 3 = .ok (.invokestatic 42, 3) := by decide +kernel
theorem d_SG_compose_6 : decode b_SG_compose 6 = .ok (.iload_n 2, 1) := by decide +kernel
theorem d_SG_compose_7 : decode b_SG_compose 7 = .ok (.bipush 8, 2) := by decide +kernel
theorem d_SG_compose_9 : decode b_SG_compose 9 = .ok (.invokestatic 42, 3) := by decide +kernel
theorem d_SG_compose_12 : decode b_SG_compose 12 = .ok (.iload_n 3, 1) := by decide +kernel
theorem d_SG_compose_13 : decode b_SG_compose 13 = .ok (.bipush 6, 2) := by decide +kernel
theorem d_SG_compose_15 : decode b_SG_compose 15 = .ok (.invokestatic 42, 3) := by decide +kernel
theorem d_SG_compose_18 : decode b_SG_compose 18 = .ok (.iload 4, 2) := by decide +kernel
theorem d_SG_compose_20 : decode b_SG_compose 20 = .ok (.bipush 8, 2) := by decide +kernel
theorem d_SG_compose_22 : decode b_SG_compose 22 = .ok (.invokestatic 42, 3) := by decide +kernel
theorem d_SG_compose_25 : decode b_SG_compose 25 = .ok (.aload_n 0, 1) := by decide +kernel
theorem d_SG_compose_26 : decode b_SG_compose 26 = .ok (.iload_n 2, 1) := by decide +kernel
theorem d_SG_compose_27 : decode b_SG_compose 27 = .ok (.invokevirtual 58, 3) := by decide +kernel
theorem d_SG_compose_30 : decode b_SG_compose 30 = .ok (.lstore 5, 2) := by decide +kernel
theorem d_SG_compose_32 : decode b_SG_compose 32 = .ok (.aload_n 0, 1) := by decide +kernel
theorem d_SG_compose_33 : decode b_SG_compose 33 = .ok (.iload 4, 2) := by decide +kernel
theorem d_SG_compose_35 : decode b_SG_compose 35 = .ok (.invokevirtual 58, 3) := by decide +kernel
theorem d_SG_compose_38 : decode b_SG_compose 38 = .ok (.lstore 7, 2) := by decide +kernel
theorem d_SG_compose_40 : decode b_SG_compose 40 = .ok (.aload_n 0, 1) := by decide +kernel
theorem d_SG_compose_41 : decode b_SG_compose 41 = .ok (.getfield 12, 3) := by decide +kernel
theorem d_SG_compose_44 : decode b_SG_compose 44 = .ok (.iload_n 1, 1) := by decide +kernel
theorem d_SG_compose_45 : decode b_SG_compose 45 = .ok (.lload 7, 2) := by decide +kernel
theorem d_SG_compose_47 : decode b_SG_compose 47 = .ok (.lload 5, 2) := by decide +kernel
theorem d_SG_compose_49 : decode b_SG_compose 49 = .ok (.iload_n 3, 1) := by decide +kernel
theorem d_SG_compose_50 : decode b_SG_compose 50 = .ok (.invokestatic 69, 3) := by decide +kernel
theorem d_SG_compose_53 : decode b_SG_compose 53 = .ok (.lload 5, 2) := by decide +kernel
theorem d_SG_compose_55 : decode b_SG_compose 55 = .ok (.iload_n 3, 1) := by decide +kernel
theorem d_SG_compose_56 : decode b_SG_compose 56 = .ok (.invokestatic 73, 3) := by decide +kernel
theorem d_SG_compose_59 : decode b_SG_compose 59 = .ok (.invokestatic 65, 3) := by decide +kernel
theorem d_SG_compose_62 : decode b_SG_compose 62 = .ok (.invokevirtual 54, 3) := by decide +kernel
theorem d_SG_compose_65 : decode b_SG_compose 65 = .ok (.return_, 1) := by decide +kernel
theorem d_LW_quantify_0 : decode b_LW_quantify 0 = .ok (.aload_n 0, 1) := by decide +kernel
theorem d_LW_quantify_1 : decode b_LW_quantify 1 = .ok (.iload_n 1, 1) := by decide +kernel
theorem d_LW_quantify_2 : decode b_LW_quantify 2 = .ok (.iload_n 2, 1) := by decide +kernel
theorem d_LW_quantify_3 : decode b_LW_quantify 3 = .ok (.iload_n 3, 1) := by decide +kernel
theorem d_LW_quantify_4 : decode b_LW_quantify 4 = .ok (.iload 4, 2) := by decide +kernel
theorem d_LW_quantify_6 : decode b_LW_quantify 6 = .ok (.invokevirtual 31, 3) := by decide +kernel
theorem d_LW_quantify_9 : decode b_LW_quantify 9 = .ok (.goto 11, 3) := by decide +kernel
theorem d_LW_quantify_12 : decode b_LW_quantify 12 = .ok (.astore 5, 2) := by decide +kernel
theorem d_LW_quantify_14 : decode b_LW_quantify 14 = .ok (.iconst 1, 1) := by decide +kernel
theorem d_LW_quantify_15 : decode b_LW_quantify 15 = .ok (.ireturn, 1) := by decide +kernel
theorem d_LW_quantify_16 : decode b_LW_quantify 16 = .ok (.astore 5, 2) := by decide +kernel
theorem d_LW_quantify_18 : decode b_LW_quantify 18 = .ok (.iconst 2, 1) := by decide +kernel
theorem d_LW_quantify_19 : decode b_LW_quantify 19 = .ok (.ireturn, 1) := by decide +kernel
theorem d_LW_quantify_20 : decode b_LW_quantify 20 = .ok (.iconst 0, 1) := by decide +kernel
theorem d_LW_quantify_21 : decode b_LW_quantify 21 = .ok (.ireturn, 1) := by decide +kernel
theorem d_SG_quantify_0 : decode b_SG_quantify 0 = .ok (.iload_n 1, 1) := by decide +kernel
theorem d_SG_quantify_1 : decode b_SG_quantify 1 = .ok (.bipush 8, 2) := by decide +kernel
theorem d_SG_quantify_3 : decode b_SG_quantify 3 = .ok (.invokestatic 42, 3) := by decide +kernel
theorem d_SG_quantify_6 : decode b_SG_quantify 6 = .ok (.iload_n 2, 1) := by decide +kernel
theorem d_SG_quantify_7 : decode b_SG_quantify 7 = .ok (.bipush 8, 2) := by decide +kernel
theorem d_SG_quantify_9 : decode b_SG_quantify 9 = .ok (.invokestatic 42, 3) := by decide +kernel
theorem d_SG_quantify_12 : decode b_SG_quantify 12 = .ok (.iload_n 3, 1) := by decide +kernel
theorem d_SG_quantify_13 : decode b_SG_quantify 13 = .ok (.bipush 64, 2) := by decide +kernel
theorem d_SG_quantify_15 : decode b_SG_quantify 15 = .ok (.invokestatic 42, 3) := by decide +kernel
theorem d_SG_quantify_18 : decode b_SG_quantify 18 = .ok (.aload_n 0, 1) := by decide +kernel
theorem d_SG_quantify_19 : decode b_SG_quantify 19 = .ok (.iload_n 2, 1) := by decide +kernel
theorem d_SG_quantify_20 : decode b_SG_quantify 20 = .ok (.invokevirtual 58, 3) := by decide +kernel
theorem d_SG_quantify_23 : decode b_SG_quantify 23 = .ok (.lstore 5, 2) := by decide +kernel
theorem d_SG_quantify_25 : decode b_SG_quantify 25 = .ok (.iconst 0, 1) := by decide +kernel
theorem d_SG_quantify_26 : decode b_SG_quantify 26 = .ok (.istore 7, 2) := by decide +kernel
theorem d_SG_quantify_28 : decode b_SG_quantify 28 = .ok (.iload 7, 2) := by decide +kernel
theorem d_SG_quantify_30 : decode b_SG_quantify 30 = .ok (.bipush 6, 2) := by decide +kernel
theorem d_SG_quantify_32 : decode b_SG_quantify 32 = .ok (.if_icmp .ge 57, 3) := by decide +kernel
theorem d_SG_quantify_35 : decode b_SG_quantify 35 = .ok (.iload_n 3, 1) := by decide +kernel
theorem d_SG_quantify_36 : decode b_SG_quantify 36 = .ok (.iload 7, 2) := by decide +kernel
theorem d_SG_quantify_38 : decode b_SG_quantify 38 = .ok (.ishr, 1) := by decide +kernel
theorem d_SG_quantify_39 : decode b_SG_quantify 39 = .ok (.iconst 1, 1) := by decide +kernel
theorem d_SG_quantify_40 : decode b_SG_quantify 40 = .ok (.iand, 1) := by decide +kernel
theorem d_SG_quantify_41 : decode b_SG_quantify 41 = .ok (.iconst 1, 1) := by decide +kernel
theorem d_SG_quantify_42 : decode b_SG_quantify 42 = .ok (.if_icmp .ne 41, 3) := by decide +kernel
theorem d_SG_quantify_45 : decode b_SG_quantify 45 = .ok (.lload 5, 2) := by decide +kernel
theorem d_SG_quantify_47 : decode b_SG_quantify 47 = .ok (.iload 7, 2) := by decide +kernel
theorem d_SG_quantify_49 : decode b_SG_quantify 49 = .ok (.invokestatic 73, 3) := by decide +kernel
theorem d_SG_quantify_52 : decode b_SG_quantify 52 = .ok (.lstore 8, 2) := by decide +kernel
theorem d_SG_quantify_54 : decode b_SG_quantify 54 = .ok (.lload 5, 2) := by decide +kernel
theorem d_SG_quantify_56 : decode b_SG_quantify 56 = .ok (.iload 7, 2) := by decide +kernel
theorem d_SG_quantify_58 : decode b_SG_quantify 58 = .ok (.invokestatic 69, 3) := by decide +kernel
theorem d_SG_quantify_61 : decode b_SG_quantify 61 = .ok (.lstore 10, 2) := by decide +kernel
theorem d_SG_quantify_63 : decode b_SG_quantify 63 = .ok (.iload 4, 2) := by decide +kernel
theorem d_SG_quantify_65 : decode b_SG_quantify 65 = .ok (.ifCond .eq 11, 3) := by decide +kernel
theorem d_SG_quantify_68 : decode b_SG_quantify 68 = .ok (.lload 8, 2) := by decide +kernel
theorem d_SG_quantify_70 : decode b_SG_quantify 70 = .ok (.lload 10, 2) := by decide +kernel
theorem d_SG_quantify_72 : decode b_SG_quantify 72 = .ok (.land, 1) := by decide +kernel
theorem d_SG_quantify_73 : decode b_SG_quantify 73 = .ok (.goto 8, 3) := by decide +kernel
theorem d_SG_quantify_76 : decode b_SG_quantify 76 = .ok (.lload 8, 2) := by decide +kernel
theorem d_SG_quantify_78 : decode b_SG_quantify 78 = .ok (.lload 10, 2) := by decide +kernel
theorem d_SG_quantify_80 : decode b_SG_quantify 80 = .ok (.lor, 1) := by decide +kernel
theorem d_SG_quantify_81 : decode b_SG_quantify 81 = .ok (.lstore 5, 2) := by decide +kernel
theorem d_SG_quantify_83 : decode b_SG_quantify 83 = .ok (.iinc 7 1, 3) := by decide +kernel
theorem d_SG_quantify_86 : decode b_SG_quantify 86 = .ok (.goto (-58), 3) := by decide +kernel
theorem d_SG_quantify_89 : decode b_SG_quantify 89 = .ok (.aload_n 0, 1) := by decide +kernel
theorem d_SG_quantify_90 : decode b_SG_quantify 90 = .ok (.getfield 12, 3) := by decide +kernel
theorem d_SG_quantify_93 : decode b_SG_quantify 93 = .ok (.iload_n 1, 1) := by decide +kernel
theorem d_SG_quantify_94 : decode b_SG_quantify 94 = .ok (.lload 5, 2) := by decide +kernel
theorem d_SG_quantify_96 : decode b_SG_quantify 96 = .ok (.invokevirtual 54, 3) := by decide +kernel
theorem d_SG_quantify_99 : decode b_SG_quantify 99 = .ok (.return_, 1) := by decide +kernel
theorem d_LW_type_0 : decode b_LW_type 0 = .ok (.aload 4, 2) := by decide +kernel
theorem d_LW_type_2 : decode b_LW_type 2 = .ok (.iconst 0, 1) := by decide +kernel
theorem d_LW_type_3 : decode b_LW_type 3 = .ok (.aload_n 0, 1) := by decide +kernel
theorem d_LW_type_4 : decode b_LW_type 4 = .ok (.lload_n 1, 1) := by decide +kernel
theorem d_LW_type_5 : decode b_LW_type 5 = .ok (.iload_n 3, 1) := by decide +kernel
theorem d_LW_type_6 : decode b_LW_type 6 = .ok (.invokevirtual 34, 3) := by decide +kernel
theorem d_LW_type_9 : decode b_LW_type 9 = .ok (.i2l, 1) := by decide +kernel
theorem d_LW_type_10 : decode b_LW_type 10 = .ok (.lastore, 1) := by decide +kernel
theorem d_LW_type_11 : decode b_LW_type 11 = .ok (.goto 7, 3) := by decide +kernel
theorem d_LW_type_14 : decode b_LW_type 14 = .ok (.astore 5, 2) := by decide +kernel
theorem d_LW_type_16 : decode b_LW_type 16 = .ok (.iconst 1, 1) := by decide +kernel
theorem d_LW_type_17 : decode b_LW_type 17 = .ok (.ireturn, 1) := by decide +kernel
theorem d_LW_type_18 : decode b_LW_type 18 = .ok (.iconst 0, 1) := by decide +kernel
theorem d_LW_type_19 : decode b_LW_type 19 = .ok (.ireturn, 1) := by decide +kernel
theorem d_SG_type_0 : decode b_SG_type 0 = .ok (.iload_n 3, 1) := by decide +kernel
theorem d_SG_type_1 : decode b_SG_type 1 = .ok (.iconst 1, 1) := by decide +kernel
theorem d_SG_type_2 : decode b_SG_type 2 = .ok (.if_icmp .lt 20, 3) := by decide +kernel
theorem d_SG_type_5 : decode b_SG_type 5 = .ok (.iload_n 3, 1) := by decide +kernel
theorem d_SG_type_6 : decode b_SG_type 6 = .ok (.bipush 8, 2) := by decide +kernel
theorem d_SG_type_8 : decode b_SG_type 8 = .ok (.if_icmp .gt 14, 3) := by decide +kernel
theorem d_SG_type_11 : decode b_SG_type 11 = .ok (.aload_n 0, 1) := by decide +kernel
theorem d_SG_type_12 : decode b_SG_type 12 = .ok (.getfield 24, 3) := by decide +kernel
theorem d_SG_type_15 : decode b_SG_type 15 = .ok (.iload_n 3, 1) := by decide +kernel
theorem d_SG_type_16 : decode b_SG_type 16 = .ok (.iadd, 1) := by decide +kernel
theorem d_SG_type_17 : decode b_SG_type 17 = .ok (.bipush 40, 2) := by decide +kernel
theorem d_SG_type_19 : decode b_SG_type 19 = .ok (.if_icmp .le 11, 3) := by decide +kernel
theorem d_SG_type_22 : decode b_SG_type 22 = .ok (.new 76, 3) := by decide +kernel
theorem d_SG_type_25 : decode b_SG_type 25 = .ok (.dup, 1) := by decide +kernel
theorem d_SG_type_26 : decode b_SG_type 26 = .ok (.invokespecial 78, 3) := by decide +kernel
theorem d_SG_type_29 : decode b_SG_type 29 = .ok (.athrow, 1) := by decide +kernel
theorem d_SG_type_30 : decode b_SG_type 30 = .ok (.iload_n 3, 1) := by decide +kernel
theorem d_SG_type_31 : decode b_SG_type 31 = .ok (.iconst 1, 1) := by decide +kernel
theorem d_SG_type_32 : decode b_SG_type 32 = .ok (.isub, 1) := by decide +kernel
theorem d_SG_type_33 : decode b_SG_type 33 = .ok (.istore 4, 2) := by decide +kernel
theorem d_SG_type_35 : decode b_SG_type 35 = .ok (.iload 4, 2) := by decide +kernel
theorem d_SG_type_37 : decode b_SG_type 37 = .ok (.ifCond .lt 41, 3) := by decide +kernel
theorem d_SG_type_40 : decode b_SG_type 40 = .ok (.aload_n 0, 1) := by decide +kernel
theorem d_SG_type_41 : decode b_SG_type 41 = .ok (.getfield 20, 3) := by decide +kernel
theorem d_SG_type_44 : decode b_SG_type 44 = .ok (.aload_n 0, 1) := by decide +kernel
theorem d_SG_type_45 : decode b_SG_type 45 = .ok (.getfield 24, 3) := by decide +kernel
theorem d_SG_type_48 : decode b_SG_type 48 = .ok (.lload_n 1, 1) := by decide +kernel
theorem d_SG_type_49 : decode b_SG_type 49 = .ok (.bipush 8, 2) := by decide +kernel
theorem d_SG_type_51 : decode b_SG_type 51 = .ok (.iload 4, 2) := by decide +kernel
theorem d_SG_type_53 : decode b_SG_type 53 = .ok (.imul, 1) := by decide +kernel
theorem d_SG_type_54 : decode b_SG_type 54 = .ok (.lushr, 1) := by decide +kernel
theorem d_SG_type_55 : decode b_SG_type 55 = .ok (.ldc2_w 79, 3) := by decide +kernel
theorem d_SG_type_58 : decode b_SG_type 58 = .ok (.land, 1) := by decide +kernel
theorem d_SG_type_59 : decode b_SG_type 59 = .ok (.l2i, 1) := by decide +kernel
theorem d_SG_type_60 : decode b_SG_type 60 = .ok (.i2c, 1) := by decide +kernel
theorem d_SG_type_61 : decode b_SG_type 61 = .ok (.castore, 1) := by decide +kernel
theorem d_SG_type_62 : decode b_SG_type 62 = .ok (.aload_n 0, 1) := by decide +kernel
theorem d_SG_type_63 : decode b_SG_type 63 = .ok (.dup, 1) := by decide +kernel
theorem d_SG_type_64 : decode b_SG_type 64 = .ok (.getfield 24, 3) := by decide +kernel
theorem d_SG_type_67 : decode b_SG_type 67 = .ok (.iconst 1, 1) := by decide +kernel
theorem d_SG_type_68 : decode b_SG_type 68 = .ok (.iadd, 1) := by decide +kernel
theorem d_SG_type_69 : decode b_SG_type 69 = .ok (.putfield 24, 3) := by decide +kernel
theorem d_SG_type_72 : decode b_SG_type 72 = .ok (.iinc 4 (-1), 3) := by decide +kernel
theorem d_SG_type_75 : decode b_SG_type 75 = .ok (.goto (-40), 3) := by decide +kernel
theorem d_SG_type_78 : decode b_SG_type 78 = .ok (.aload_n 0, 1) := by decide +kernel
theorem d_SG_type_79 : decode b_SG_type 79 = .ok (.getfield 24, 3) := by decide +kernel
theorem d_SG_type_82 : decode b_SG_type 82 = .ok (.ireturn, 1) := by decide +kernel
theorem d_LW_read_0 : decode b_LW_read 0 = .ok (.aload_n 2, 1) := by decide +kernel
theorem d_LW_read_1 : decode b_LW_read 1 = .ok (.iconst 0, 1) := by decide +kernel
theorem d_LW_read_2 : decode b_LW_read 2 = .ok (.aload_n 0, 1) := by decide +kernel
theorem d_LW_read_3 : decode b_LW_read 3 = .ok (.iload_n 1, 1) := by decide +kernel
theorem d_LW_read_4 : decode b_LW_read 4 = .ok (.invokevirtual 38, 3) := by decide +kernel
theorem d_LW_read_7 : decode b_LW_read 7 = .ok (.i2l, 1) := by decide +kernel
theorem d_LW_read_8 : decode b_LW_read 8 = .ok (.lastore, 1) := by decide +kernel
theorem d_LW_read_9 : decode b_LW_read 9 = .ok (.goto 6, 3) := by decide +kernel
theorem d_LW_read_12 : decode b_LW_read 12 = .ok (.astore_n 3, 1) := by decide +kernel
theorem d_LW_read_13 : decode b_LW_read 13 = .ok (.iconst 1, 1) := by decide +kernel
theorem d_LW_read_14 : decode b_LW_read 14 = .ok (.ireturn, 1) := by decide +kernel
theorem d_LW_read_15 : decode b_LW_read 15 = .ok (.iconst 0, 1) := by decide +kernel
theorem d_LW_read_16 : decode b_LW_read 16 = .ok (.ireturn, 1) := by decide +kernel
theorem d_SG_read_0 : decode b_SG_read 0 = .ok (.iload_n 1, 1) := by decide +kernel
theorem d_SG_read_1 : decode b_SG_read 1 = .ok (.bipush 8, 2) := by decide +kernel
theorem d_SG_read_3 : decode b_SG_read 3 = .ok (.invokestatic 42, 3) := by decide +kernel
theorem d_SG_read_6 : decode b_SG_read 6 = .ok (.aload_n 0, 1) := by decide +kernel
theorem d_SG_read_7 : decode b_SG_read 7 = .ok (.getfield 31, 3) := by decide +kernel
theorem d_SG_read_10 : decode b_SG_read 10 = .ok (.aload_n 0, 1) := by decide +kernel
theorem d_SG_read_11 : decode b_SG_read 11 = .ok (.getfield 20, 3) := by decide +kernel
theorem d_SG_read_14 : decode b_SG_read 14 = .ok (.aload_n 0, 1) := by decide +kernel
theorem d_SG_read_15 : decode b_SG_read 15 = .ok (.getfield 24, 3) := by decide +kernel
theorem d_SG_read_18 : decode b_SG_read 18 = .ok (.aload_n 0, 1) := by decide +kernel
theorem d_SG_read_19 : decode b_SG_read 19 = .ok (.getfield 12, 3) := by decide +kernel
theorem d_SG_read_22 : decode b_SG_read 22 = .ok (.invokevirtual 81, 3) := by decide +kernel
theorem d_SG_read_25 : decode b_SG_read 25 = .ok (.istore_n 2, 1) := by decide +kernel
theorem d_SG_read_26 : decode b_SG_read 26 = .ok (.aload_n 0, 1) := by decide +kernel
theorem d_SG_read_27 : decode b_SG_read 27 = .ok (.iconst 0, 1) := by decide +kernel
theorem d_SG_read_28 : decode b_SG_read 28 = .ok (.putfield 24, 3) := by decide +kernel
theorem d_SG_read_31 : decode b_SG_read 31 = .ok (.iload_n 2, 1) := by decide +kernel
theorem d_SG_read_32 : decode b_SG_read 32 = .ok (.ifCond .ge 18, 3) := by decide +kernel
theorem d_SG_read_35 : decode b_SG_read 35 = .ok (.aload_n 0, 1) := by decide +kernel
theorem d_SG_read_36 : decode b_SG_read 36 = .ok (.getfield 12, 3) := by decide +kernel
theorem d_SG_read_39 : decode b_SG_read 39 = .ok (.iload_n 1, 1) := by decide +kernel
theorem d_SG_read_40 : decode b_SG_read 40 = .ok (.aload_n 0, 1) := by decide +kernel
theorem d_SG_read_41 : decode b_SG_read 41 = .ok (.getfield 31, 3) := by decide +kernel
theorem d_SG_read_44 : decode b_SG_read 44 = .ok (.invokevirtual 85, 3) := by decide +kernel
theorem d_SG_read_47 : decode b_SG_read 47 = .ok (.invokevirtual 54, 3) := by decide +kernel
theorem d_SG_read_50 : decode b_SG_read 50 = .ok (.iload_n 2, 1) := by decide +kernel
theorem d_SG_read_51 : decode b_SG_read 51 = .ok (.ireturn, 1) := by decide +kernel
theorem d_FR_failurePlace_0 : decode b_FR_failurePlace 0 = .ok (.aload_n 0, 1) := by decide +kernel
theorem d_FR_failurePlace_1 : decode b_FR_failurePlace 1 = .ok (.iconst 0, 1) := by decide +kernel
theorem d_FR_failurePlace_2 : decode b_FR_failurePlace 2 = .ok (.putfield 24, 3) := by decide +kernel
theorem d_FR_failurePlace_5 : decode b_FR_failurePlace 5 = .ok (.aload_n 0, 1) := by decide +kernel
theorem d_FR_failurePlace_6 : decode b_FR_failurePlace 6 = .ok (.invokevirtual 28, 3) := by decide +kernel
theorem d_FR_failurePlace_9 : decode b_FR_failurePlace 9 = .ok (.iconst 0, 1) := by decide +kernel
theorem d_FR_failurePlace_10 : decode b_FR_failurePlace 10 = .ok (.istore 4, 2) := by decide +kernel
theorem d_FR_failurePlace_12 : decode b_FR_failurePlace 12 = .ok (.iload 4, 2) := by decide +kernel
theorem d_FR_failurePlace_14 : decode b_FR_failurePlace 14 = .ok (.iload_n 2, 1) := by decide +kernel
theorem d_FR_failurePlace_15 : decode b_FR_failurePlace 15 = .ok (.if_icmp .ge 48, 3) := by decide +kernel
theorem d_FR_failurePlace_18 : decode b_FR_failurePlace 18 = .ok (.aload_n 1, 1) := by decide +kernel
theorem d_FR_failurePlace_19 : decode b_FR_failurePlace 19 = .ok (.iload 4, 2) := by decide +kernel
theorem d_FR_failurePlace_21 : decode b_FR_failurePlace 21 = .ok (.caload, 1) := by decide +kernel
theorem d_FR_failurePlace_22 : decode b_FR_failurePlace 22 = .ok (.istore 5, 2) := by decide +kernel
theorem d_FR_failurePlace_24 : decode b_FR_failurePlace 24 = .ok (.aload_n 0, 1) := by decide +kernel
theorem d_FR_failurePlace_25 : decode b_FR_failurePlace 25 = .ok (.getfield 31, 3) := by decide +kernel
theorem d_FR_failurePlace_28 : decode b_FR_failurePlace 28 = .ok (.ifCond .eq 13, 3) := by decide +kernel
theorem d_FR_failurePlace_31 : decode b_FR_failurePlace 31 = .ok (.aload_n 0, 1) := by decide +kernel
theorem d_FR_failurePlace_32 : decode b_FR_failurePlace 32 = .ok (.iload 5, 2) := by decide +kernel
theorem d_FR_failurePlace_34 : decode b_FR_failurePlace 34 = .ok (.aload_n 3, 1) := by decide +kernel
theorem d_FR_failurePlace_35 : decode b_FR_failurePlace 35 = .ok (.invokevirtual 35, 3) := by decide +kernel
theorem d_FR_failurePlace_38 : decode b_FR_failurePlace 38 = .ok (.goto 9, 3) := by decide +kernel
theorem d_FR_failurePlace_41 : decode b_FR_failurePlace 41 = .ok (.aload_n 0, 1) := by decide +kernel
theorem d_FR_failurePlace_42 : decode b_FR_failurePlace 42 = .ok (.iload 5, 2) := by decide +kernel
theorem d_FR_failurePlace_44 : decode b_FR_failurePlace 44 = .ok (.invokevirtual 39, 3) := by decide +kernel
theorem d_FR_failurePlace_47 : decode b_FR_failurePlace 47 = .ok (.istore 6, 2) := by decide +kernel
theorem d_FR_failurePlace_49 : decode b_FR_failurePlace 49 = .ok (.iload 6, 2) := by decide +kernel
theorem d_FR_failurePlace_51 : decode b_FR_failurePlace 51 = .ok (.ifCond .ne 6, 3) := by decide +kernel
theorem d_FR_failurePlace_54 : decode b_FR_failurePlace 54 = .ok (.iload 4, 2) := by decide +kernel
theorem d_FR_failurePlace_56 : decode b_FR_failurePlace 56 = .ok (.ireturn, 1) := by decide +kernel
theorem d_FR_failurePlace_57 : decode b_FR_failurePlace 57 = .ok (.iinc 4 1, 3) := by decide +kernel
theorem d_FR_failurePlace_60 : decode b_FR_failurePlace 60 = .ok (.goto (-48), 3) := by decide +kernel
theorem d_FR_failurePlace_63 : decode b_FR_failurePlace 63 = .ok (.aload_n 0, 1) := by decide +kernel
theorem d_FR_failurePlace_64 : decode b_FR_failurePlace 64 = .ok (.getfield 31, 3) := by decide +kernel
theorem d_FR_failurePlace_67 : decode b_FR_failurePlace 67 = .ok (.ifCond .ne 10, 3) := by decide +kernel
theorem d_FR_failurePlace_70 : decode b_FR_failurePlace 70 = .ok (.aload_n 0, 1) := by decide +kernel
