theorem d_JL_bitCount_22 : decode b_JL_bitCount 22 = .ok (.ladd, 1) := by decide +kernel
theorem d_JL_bitCount_23 : decode b_JL_bitCount 23 = .ok (.lstore_n 0, 1) := by decide +kernel
theorem d_JL_bitCount_24 : decode b_JL_bitCount 24 = .ok (.lload_n 0, 1) := by decide +kernel
theorem d_JL_bitCount_25 : decode b_JL_bitCount 25 = .ok (.lload_n 0, 1) := by decide +kernel
theorem d_JL_bitCount_26 : decode b_JL_bitCount 26 = .ok (.iconst 4, 1) := by decide +kernel
theorem d_JL_bitCount_27 : decode b_JL_bitCount 27 = .ok (.lushr, 1) := by decide +kernel
theorem d_JL_bitCount_28 : decode b_JL_bitCount 28 = .ok (.ladd, 1) := by decide +kernel
theorem d_JL_bitCount_29 : decode b_JL_bitCount 29 = .ok (.ldc2_w 318, 3) := by decide +kernel
theorem d_JL_bitCount_32 : decode b_JL_bitCount 32 = .ok (.land, 1) := by decide +kernel
theorem d_JL_bitCount_33 : decode b_JL_bitCount 33 = .ok (.lstore_n 0, 1) := by decide +kernel
theorem d_JL_bitCount_34 : decode b_JL_bitCount 34 = .ok (.lload_n 0, 1) := by decide +kernel
theorem d_JL_bitCount_35 : decode b_JL_bitCount 35 = .ok (.lload_n 0, 1) := by decide +kernel
theorem d_JL_bitCount_36 : decode b_JL_bitCount 36 = .ok (.bipush 8, 2) := by decide +kernel
theorem d_JL_bitCount_38 : decode b_JL_bitCount 38 = .ok (.lushr, 1) := by decide +kernel
theorem d_JL_bitCount_39 : decode b_JL_bitCount 39 = .ok (.ladd, 1) := by decide +kernel
theorem d_JL_bitCount_40 : decode b_JL_bitCount 40 = .ok (.lstore_n 0, 1) := by decide +kernel
theorem d_JL_bitCount_41 : decode b_JL_bitCount 41 = .ok (.lload_n 0, 1) := by decide +kernel
theorem d_JL_bitCount_42 : decode b_JL_bitCount 42 = .ok (.lload_n 0, 1) := by decide +kernel
theorem d_JL_bitCount_43 : decode b_JL_bitCount 43 = .ok (.bipush 16, 2) := by decide +kernel
theorem d_JL_bitCount_45 : decode b_JL_bitCount 45 = .ok (.lushr, 1) := by decide +kernel
theorem d_JL_bitCount_46 : decode b_JL_bitCount 46 = .ok (.ladd, 1) := by decide +kernel
theorem d_JL_bitCount_47 : decode b_JL_bitCount 47 = .ok (.lstore_n 0, 1) := by decide +kernel
theorem d_JL_bitCount_48 : decode b_JL_bitCount 48 = .ok (.lload_n 0, 1) := by decide +kernel
theorem d_JL_bitCount_49 : decode b_JL_bitCount 49 = .ok (.lload_n 0, 1) := by decide +kernel
theorem d_JL_bitCount_50 : decode b_JL_bitCount 50 = .ok (.bipush 32, 2) := by decide +kernel
theorem d_JL_bitCount_52 : decode b_JL_bitCount 52 = .ok (.lushr, 1) := by decide +kernel
theorem d_JL_bitCount_53 : decode b_JL_bitCount 53 = .ok (.ladd, 1) := by decide +kernel
theorem d_JL_bitCount_54 : decode b_JL_bitCount 54 = .ok (.lstore_n 0, 1) := by decide +kernel
theorem d_JL_bitCount_55 : decode b_JL_bitCount 55 = .ok (.lload_n 0, 1) := by decide +kernel
theorem d_JL_bitCount_56 : decode b_JL_bitCount 56 = .ok (.l2i, 1) := by decide +kernel
theorem d_JL_bitCount_57 : decode b_JL_bitCount 57 = .ok (.bipush 127, 2) := by decide +kernel
theorem d_JL_bitCount_59 : decode b_JL_bitCount 59 = .ok (.iand, 1) := by decide +kernel
theorem d_JL_bitCount_60 : decode b_JL_bitCount 60 = .ok (.ireturn, 1) := by decide +kernel
theorem d_LW_least_0 : decode b_LW_least 0 = .ok (.aload_n 2, 1) := by decide +kernel
theorem d_LW_least_1 : decode b_LW_least 1 = .ok (.iconst 0, 1) := by decide +kernel
theorem d_LW_least_2 : decode b_LW_least 2 = .ok (.aload_n 0, 1) := by decide +kernel
theorem d_LW_least_3 : decode b_LW_least 3 = .ok (.iload_n 1, 1) := by decide +kernel
theorem d_LW_least_4 : decode b_LW_least 4 = .ok (.invokevirtual 56, 3) := by decide +kernel
theorem d_LW_least_7 : decode b_LW_least 7 = .ok (.i2l, 1) := by decide +kernel
theorem d_LW_least_8 : decode b_LW_least 8 = .ok (.lastore, 1) := by decide +kernel
theorem d_LW_least_9 : decode b_LW_least 9 = .ok (.goto 9, 3) := by decide +kernel
theorem d_LW_least_12 : decode b_LW_least 12 = .ok (.astore_n 3, 1) := by decide +kernel
theorem d_LW_least_13 : decode b_LW_least 13 = .ok (.iconst 1, 1) := by decide +kernel
theorem d_LW_least_14 : decode b_LW_least 14 = .ok (.ireturn, 1) := by decide +kernel
theorem d_LW_least_15 : decode b_LW_least 15 = .ok (.astore_n 3, 1) := by decide +kernel
theorem d_LW_least_16 : decode b_LW_least 16 = .ok (.iconst 2, 1) := by decide +kernel
theorem d_LW_least_17 : decode b_LW_least 17 = .ok (.ireturn, 1) := by decide +kernel
theorem d_LW_least_18 : decode b_LW_least 18 = .ok (.iconst 0, 1) := by decide +kernel
theorem d_LW_least_19 : decode b_LW_least 19 = .ok (.ireturn, 1) := by decide +kernel
theorem d_SG_least_0 : decode b_SG_least 0 = .ok (.iload_n 1, 1) := by decide +kernel
theorem d_SG_least_1 : decode b_SG_least 1 = .ok (.bipush 8, 2) := by decide +kernel
theorem d_SG_least_3 : decode b_SG_least 3 = .ok (.invokestatic 42, 3) := by decide +kernel
theorem d_SG_least_6 : decode b_SG_least 6 = .ok (.aload_n 0, 1) := by decide +kernel
theorem d_SG_least_7 : decode b_SG_least 7 = .ok (.iload_n 1, 1) := by decide +kernel
theorem d_SG_least_8 : decode b_SG_least 8 = .ok (.invokevirtual 58, 3) := by decide +kernel
theorem d_SG_least_11 : decode b_SG_least 11 = .ok (.lstore_n 2, 1) := by decide +kernel
theorem d_SG_least_12 : decode b_SG_least 12 = .ok (.iconst 0, 1) := by decide +kernel
theorem d_SG_least_13 : decode b_SG_least 13 = .ok (.istore 4, 2) := by decide +kernel
theorem d_SG_least_15 : decode b_SG_least 15 = .ok (.iload 4, 2) := by decide +kernel
theorem d_SG_least_17 : decode b_SG_least 17 = .ok (.bipush 64, 2) := by decide +kernel
theorem d_SG_least_19 : decode b_SG_least 19 = .ok (.if_icmp .ge 21, 3) := by decide +kernel
theorem d_SG_least_22 : decode b_SG_least 22 = .ok (.lload_n 2, 1) := by decide +kernel
theorem d_SG_least_23 : decode b_SG_least 23 = .ok (.iload 4, 2) := by decide +kernel
theorem d_SG_least_25 : decode b_SG_least 25 = .ok (.invokestatic 97, 3) := by decide +kernel
theorem d_SG_least_28 : decode b_SG_least 28 = .ok (.ifCond .eq 6, 3) := by decide +kernel
theorem d_SG_least_31 : decode b_SG_least 31 = .ok (.iload 4, 2) := by decide +kernel
theorem d_SG_least_33 : decode b_SG_least 33 = .ok (.ireturn, 1) := by decide +kernel
theorem d_SG_least_34 : decode b_SG_least 34 = .ok (.iinc 4 1, 3) := by decide +kernel
theorem d_SG_least_37 : decode b_SG_least 37 = .ok (.goto (-22), 3) := by decide +kernel
theorem d_SG_least_40 : decode b_SG_least 40 = .ok (.iconst (-1), 1) := by decide +kernel
theorem d_SG_least_41 : decode b_SG_least 41 = .ok (.ireturn, 1) := by decide +kernel
theorem d_LW_support_0 : decode b_LW_support 0 = .ok (.aload_n 2, 1) := by decide +kernel
theorem d_LW_support_1 : decode b_LW_support 1 = .ok (.iconst 0, 1) := by decide +kernel
theorem d_LW_support_2 : decode b_LW_support 2 = .ok (.aload_n 0, 1) := by decide +kernel
theorem d_LW_support_3 : decode b_LW_support 3 = .ok (.iload_n 1, 1) := by decide +kernel
theorem d_LW_support_4 : decode b_LW_support 4 = .ok (.invokevirtual 59, 3) := by decide +kernel
theorem d_LW_support_7 : decode b_LW_support 7 = .ok (.i2l, 1) := by decide +kernel
theorem d_LW_support_8 : decode b_LW_support 8 = .ok (.lastore, 1) := by decide +kernel
theorem d_LW_support_9 : decode b_LW_support 9 = .ok (.goto 9, 3) := by decide +kernel
theorem d_LW_support_12 : decode b_LW_support 12 = .ok (.astore_n 3, 1) := by decide +kernel
theorem d_LW_support_13 : decode b_LW_support 13 = .ok (.iconst 1, 1) := by decide +kernel
theorem d_LW_support_14 : decode b_LW_support 14 = .ok (.ireturn, 1) := by decide +kernel
theorem d_LW_support_15 : decode b_LW_support 15 = .ok (.astore_n 3, 1) := by decide +kernel
theorem d_LW_support_16 : decode b_LW_support 16 = .ok (.iconst 2, 1) := by decide +kernel
theorem d_LW_support_17 : decode b_LW_support 17 = .ok (.ireturn, 1) := by decide +kernel
theorem d_LW_support_18 : decode b_LW_support 18 = .ok (.iconst 0, 1) := by decide +kernel
theorem d_LW_support_19 : decode b_LW_support 19 = .ok (.ireturn, 1) := by decide +kernel
theorem d_SG_support_0 : decode b_SG_support 0 = .ok (.iload_n 1, 1) := by decide +kernel
theorem d_SG_support_1 : decode b_SG_support 1 = .ok (.bipush 8, 2) := by decide +kernel
theorem d_SG_support_3 : decode b_SG_support 3 = .ok (.invokestatic 42, 3) := by decide +kernel
theorem d_SG_support_6 : decode b_SG_support 6 = .ok (.aload_n 0, 1) := by decide +kernel
theorem d_SG_support_7 : decode b_SG_support 7 = .ok (.iload_n 1, 1) := by decide +kernel
theorem d_SG_support_8 : decode b_SG_support 8 = .ok (.invokevirtual 58, 3) := by decide +kernel
theorem d_SG_support_11 : decode b_SG_support 11 = .ok (.lstore_n 2, 1) := by decide +kernel
theorem d_SG_support_12 : decode b_SG_support 12 = .ok (.iconst 0, 1) := by decide +kernel
theorem d_SG_support_13 : decode b_SG_support 13 = .ok (.istore 4, 2) := by decide +kernel
theorem d_SG_support_15 : decode b_SG_support 15 = .ok (.iconst 0, 1) := by decide +kernel
theorem d_SG_support_16 : decode b_SG_support 16 = .ok (.istore 5, 2) := by decide +kernel
theorem d_SG_support_18 : decode b_SG_support 18 = .ok (.iload 5, 2) := by decide +kernel
theorem d_SG_support_20 : decode b_SG_support 20 = .ok (.bipush 6, 2) := by decide +kernel
theorem d_SG_support_22 : decode b_SG_support 22 = .ok (.if_icmp .ge 27, 3) := by decide +kernel
theorem d_SG_support_25 : decode b_SG_support 25 = .ok (.lload_n 2, 1) := by decide +kernel
theorem d_SG_support_26 : decode b_SG_support 26 = .ok (.iload 5, 2) := by decide +kernel
theorem d_SG_support_28 : decode b_SG_support 28 = .ok (.invokestatic 107, 3) := by decide +kernel
theorem d_SG_support_31 : decode b_SG_support 31 = .ok (.ifCond .eq 12, 3) := by decide +kernel
theorem d_SG_support_34 : decode b_SG_support 34 = .ok (.iload 4, 2) := by decide +kernel
theorem d_SG_support_36 : decode b_SG_support 36 = .ok (.iconst 1, 1) := by decide +kernel
theorem d_SG_support_37 : decode b_SG_support 37 = .ok (.iload 5, 2) := by decide +kernel
theorem d_SG_support_39 : decode b_SG_support 39 = .ok (.ishl, 1) := by decide +kernel
theorem d_SG_support_40 : decode b_SG_support 40 = .ok (.ior, 1) := by decide +kernel
theorem d_SG_support_41 : decode b_SG_support 41 = .ok (.istore 4, 2) := by decide +kernel
theorem d_SG_support_43 : decode b_SG_support 43 = .ok (.iinc 5 1, 3) := by decide +kernel
theorem d_SG_support_46 : decode b_SG_support 46 = .ok (.goto (-28), 3) := by decide +kernel
theorem d_SG_support_49 : decode b_SG_support 49 = .ok (.iload 4, 2) := by decide +kernel
theorem d_SG_support_51 : decode b_SG_support 51 = .ok (.ireturn, 1) := by decide +kernel
theorem d_TB_dependsOn_0 : decode b_TB_dependsOn 0 = .ok (.lload_n 0, 1) := by decide +kernel
theorem d_TB_dependsOn_1 : decode b_TB_dependsOn 1 = .ok (.iload_n 2, 1) := by decide +kernel
theorem d_TB_dependsOn_2 : decode b_TB_dependsOn 2 = .ok (.invokestatic 21, 3) := by decide +kernel
theorem d_TB_dependsOn_5 : decode b_TB_dependsOn 5 = .ok (.lload_n 0, 1) := by decide +kernel
theorem d_TB_dependsOn_6 : decode b_TB_dependsOn 6 = .ok (.iload_n 2, 1) := by decide +kernel
theorem d_TB_dependsOn_7 : decode b_TB_dependsOn 7 = .ok (.invokestatic 25, 3) := by decide +kernel
theorem d_TB_dependsOn_10 : decode b_TB_dependsOn 10 = .ok (.lcmp, 1) := by decide +kernel
theorem d_TB_dependsOn_11 : decode b_TB_dependsOn 11 = .ok (.ifCond .eq 7, 3) := by decide +kernel
theorem d_TB_dependsOn_14 : decode b_TB_dependsOn 14 = .ok (.iconst 1, 1) := by decide +kernel
theorem d_TB_dependsOn_15 : decode b_TB_dependsOn 15 = .ok (.goto 4, 3) := by decide +kernel
theorem d_TB_dependsOn_18 : decode b_TB_dependsOn 18 = .ok (.iconst 0, 1) := by decide +kernel
theorem d_TB_dependsOn_19 : decode b_TB_dependsOn 19 = .ok (.ireturn, 1) := by decide +kernel
theorem d_LW_size_0 : decode b_LW_size 0 = .ok (.aload_n 2, 1) := by decide +kernel
theorem d_LW_size_1 : decode b_LW_size 1 = .ok (.iconst 0, 1) := by decide +kernel
theorem d_LW_size_2 : decode b_LW_size 2 = .ok (.aload_n 0, 1) := by decide +kernel
theorem d_LW_size_3 : decode b_LW_size 3 = .ok (.iload_n 1, 1) := by decide +kernel
theorem d_LW_size_4 : decode b_LW_size 4 = .ok (.invokevirtual 62, 3) := by decide +kernel
theorem d_LW_size_7 : decode b_LW_size 7 = .ok (.i2l, 1) := by decide +kernel
theorem d_LW_size_8 : decode b_LW_size 8 = .ok (.lastore, 1) := by decide +kernel
theorem d_LW_size_9 : decode b_LW_size 9 = .ok (.goto 9, 3) := by decide +kernel
theorem d_LW_size_12 : decode b_LW_size 12 = .ok (.astore_n 3, 1) := by decide +kernel
theorem d_LW_size_13 : decode b_LW_size 13 = .ok (.iconst 1, 1) := by decide +kernel
theorem d_LW_size_14 : decode b_LW_size 14 = .ok (.ireturn, 1) := by decide +kernel
theorem d_LW_size_15 : decode b_LW_size 15 = .ok (.astore_n 3, 1) := by decide +kernel
theorem d_LW_size_16 : decode b_LW_size 16 = .ok (.iconst 2, 1) := by decide +kernel
theorem d_LW_size_17 : decode b_LW_size 17 = .ok (.ireturn, 1) := by decide +kernel
theorem d_LW_size_18 : decode b_LW_size 18 = .ok (.iconst 0, 1) := by decide +kernel
theorem d_LW_size_19 : decode b_LW_size 19 = .ok (.ireturn, 1) := by decide +kernel
theorem d_SG_size_0 : decode b_SG_size 0 = .ok (.iload_n 1, 1) := by decide +kernel
theorem d_SG_size_1 : decode b_SG_size 1 = .ok (.bipush 8, 2) := by decide +kernel
theorem d_SG_size_3 : decode b_SG_size 3 = .ok (.invokestatic 42, 3) := by decide +kernel
theorem d_SG_size_6 : decode b_SG_size 6 = .ok (.aload_n 0, 1) := by decide +kernel
theorem d_SG_size_7 : decode b_SG_size 7 = .ok (.getfield 38, 3) := by decide +kernel
theorem d_SG_size_10 : decode b_SG_size 10 = .ok (.invokevirtual 110, 3) := by decide +kernel
theorem d_SG_size_13 : decode b_SG_size 13 = .ok (.aload_n 0, 1) := by decide +kernel
theorem d_SG_size_14 : decode b_SG_size 14 = .ok (.getfield 38, 3) := by decide +kernel
theorem d_SG_size_17 : decode b_SG_size 17 = .ok (.aload_n 0, 1) := by decide +kernel
theorem d_SG_size_18 : decode b_SG_size 18 = .ok (.iload_n 1, 1) := by decide +kernel
theorem d_SG_size_19 : decode b_SG_size 19 = .ok (.invokevirtual 58, 3) := by decide +kernel
theorem d_SG_size_22 : decode b_SG_size 22 = .ok (.invokevirtual 113, 3) := by decide +kernel
theorem d_SG_size_25 : decode b_SG_size 25 = .ok (.aload_n 0, 1) := by decide +kernel
theorem d_SG_size_26 : decode b_SG_size 26 = .ok (.getfield 38, 3) := by decide +kernel
theorem d_SG_size_29 : decode b_SG_size 29 = .ok (.aload_n 0, 1) := by decide +kernel
theorem d_SG_size_30 : decode b_SG_size 30 = .ok (.getfield 16, 3) := by decide +kernel
theorem d_SG_size_33 : decode b_SG_size 33 = .ok (.invokevirtual 117, 3) := by decide +kernel
theorem d_SG_size_36 : decode b_SG_size 36 = .ok (.ireturn, 1) := by decide +kernel
theorem d_LW_width_0 : decode b_LW_width 0 = .ok (.aload_n 2, 1) := by decide +kernel
theorem d_LW_width_1 : decode b_LW_width 1 = .ok (.iconst 0, 1) := by decide +kernel
theorem d_LW_width_2 : decode b_LW_width 2 = .ok (.aload_n 0, 1) := by decide +kernel
theorem d_LW_width_3 : decode b_LW_width 3 = .ok (.iload_n 1, 1) := by decide +kernel
theorem d_LW_width_4 : decode b_LW_width 4 = .ok (.invokevirtual 65, 3) := by decide +kernel
theorem d_LW_width_7 : decode b_LW_width 7 = .ok (.i2l, 1) := by decide +kernel
theorem d_LW_width_8 : decode b_LW_width 8 = .ok (.lastore, 1) := by decide +kernel
theorem d_LW_width_9 : decode b_LW_width 9 = .ok (.goto 6, 3) := by decide +kernel
theorem d_LW_width_12 : decode b_LW_width 12 = .ok (.astore_n 3, 1) := by decide +kernel
theorem d_LW_width_13 : decode b_LW_width 13 = .ok (.iconst 1, 1) := by decide +kernel
theorem d_LW_width_14 : decode b_LW_width 14 = .ok (.ireturn, 1) := by decide +kernel
theorem d_LW_width_15 : decode b_LW_width 15 = .ok (.iconst 0, 1) := by decide +kernel
theorem d_LW_width_16 : decode b_LW_width 16 = .ok (.ireturn, 1) := by decide +kernel
theorem d_SG_width_0 : decode b_SG_width 0 = .ok (.iload_n 1, 1) := by decide +kernel
theorem d_SG_width_1 : decode b_SG_width 1 = .ok (.bipush 6, 2) := by decide +kernel
theorem d_SG_width_3 : decode b_SG_width 3 = .ok (.invokestatic 42, 3) := by decide +kernel
theorem d_SG_width_6 : decode b_SG_width 6 = .ok (.aload_n 0, 1) := by decide +kernel
theorem d_SG_width_7 : decode b_SG_width 7 = .ok (.invokevirtual 121, 3) := by decide +kernel
theorem d_SG_width_10 : decode b_SG_width 10 = .ok (.pop, 1) := by decide +kernel
theorem d_SG_width_11 : decode b_SG_width 11 = .ok (.aload_n 0, 1) := by decide +kernel
theorem d_SG_width_12 : decode b_SG_width 12 = .ok (.getfield 38, 3) := by decide +kernel
theorem d_SG_width_15 : decode b_SG_width 15 = .ok (.iload_n 1, 1) := by decide +kernel
theorem d_SG_width_16 : decode b_SG_width 16 = .ok (.invokevirtual 125, 3) := by decide +kernel
theorem d_SG_width_19 : decode b_SG_width 19 = .ok (.ireturn, 1) := by decide +kernel
theorem d_NC_onLevel_0 : decode b_NC_onLevel 0 = .ok (.aload_n 0, 1) := by decide +kernel
theorem d_NC_onLevel_1 : decode b_NC_onLevel 1 = .ok (.getfield 18, 3) := by decide +kernel
theorem d_NC_onLevel_4 : decode b_NC_onLevel 4 = .ok (.iload_n 1, 1) := by decide +kernel
theorem d_NC_onLevel_5 : decode b_NC_onLevel 5 = .ok (.iaload, 1) := by decide +kernel
theorem d_NC_onLevel_6 : decode b_NC_onLevel 6 = .ok (.ireturn, 1) := by decide +kernel
theorem d_LW_variable_0 : decode b_LW_variable 0 = .ok (.aload_n 2, 1) := by decide +kernel
theorem d_LW_variable_1 : decode b_LW_variable 1 = .ok (.iconst 0, 1) := by decide +kernel
theorem d_LW_variable_2 : decode b_LW_variable 2 = .ok (.aload_n 0, 1) := by decide +kernel
theorem d_LW_variable_3 : decode b_LW_variable 3 = .ok (.iload_n 1, 1) := by decide +kernel
theorem d_LW_variable_4 : decode b_LW_variable 4 = .ok (.invokevirtual 68, 3) := by decide +kernel
theorem d_LW_variable_7 : decode b_LW_variable 7 = .ok (.i2l, 1) := by decide +kernel
theorem d_LW_variable_8 : decode b_LW_variable 8 = .ok (.lastore, 1) := by decide +kernel
theorem d_LW_variable_9 : decode b_LW_variable 9 = .ok (.goto 6, 3) := by decide +kernel
theorem d_LW_variable_12 : decode b_LW_variable 12 = .ok (.astore_n 3, 1) := by decide +kernel
theorem d_LW_variable_13 : decode b_LW_variable 13 = .ok (.iconst 1, 1) := by decide +kernel
theorem d_LW_variable_14 : decode b_LW_variable 14 = .ok (.ireturn, 1) := by decide +kernel
theorem d_LW_variable_15 : decode b_LW_variable 15 = .ok (.iconst 0, 1) := by decide +kernel
theorem d_LW_variable_16 : decode b_LW_variable 16 = .ok (.ireturn, 1) := by decide +kernel
theorem d_SG_variable_0 : decode b_SG_variable 0 = .ok (.iload_n 1, 1) := by decide +kernel
theorem d_SG_variable_1 : decode b_SG_variable 1 = .ok (.bipush 6, 2) := by decide +kernel
theorem d_SG_variable_3 : decode b_SG_variable 3 = .ok (.invokestatic 42, 3) := by decide +kernel
theorem d_SG_variable_6 : decode b_SG_variable 6 = .ok (.aload_n 0, 1) := by decide +kernel
theorem d_SG_variable_7 : decode b_SG_variable 7 = .ok (.getfield 16, 3) := by decide +kernel
theorem d_SG_variable_10 : decode b_SG_variable 10 = .ok (.iload_n 1, 1) := by decide +kernel
theorem d_SG_variable_11 : decode b_SG_variable 11 = .ok (.iaload, 1) := by decide +kernel
theorem d_SG_variable_12 : decode b_SG_variable 12 = .ok (.ireturn, 1) := by decide +kernel
theorem d_LW_swap_0 : decode b_LW_swap 0 = .ok (.aload_n 2, 1) := by decide +kernel
theorem d_LW_swap_1 : decode b_LW_swap 1 = .ok (.iconst 0, 1) := by decide +kernel
theorem d_LW_swap_2 : decode b_LW_swap 2 = .ok (.aload_n 0, 1) := by decide +kernel
theorem d_LW_swap_3 : decode b_LW_swap 3 = .ok (.iload_n 1, 1) := by decide +kernel
theorem d_LW_swap_4 : decode b_LW_swap 4 = .ok (.invokevirtual 71, 3) := by decide +kernel
theorem d_LW_swap_7 : decode b_LW_swap 7 = .ok (.i2l, 1) := by decide +kernel
theorem d_LW_swap_8 : decode b_LW_swap 8 = .ok (.lastore, 1) := by decide +kernel
theorem d_LW_swap_9 : decode b_LW_swap 9 = .ok (.goto 6, 3) := by decide +kernel
theorem d_LW_swap_12 : decode b_LW_swap 12 = .ok (.astore_n 3, 1) := by decide +kernel
theorem d_LW_swap_13 : decode b_LW_swap 13 = .ok (.iconst 1, 1) := by decide +kernel
theorem d_LW_swap_14 : decode b_LW_swap 14 = .ok (.ireturn, 1) := by decide +kernel
theorem d_LW_swap_15 : decode b_LW_swap 15 = .ok (.iconst 0, 1) := by decide +kernel
theorem d_LW_swap_16 : decode b_LW_swap 16 = .ok (.ireturn, 1) := by decide +kernel
theorem d_SG_swap_0 : decode b_SG_swap 0 = .ok (.iload_n 1, 1) := by decide +kernel
theorem d_SG_swap_1 : decode b_SG_swap 1 = .ok (.iconst 5, 1) := by decide +kernel
theorem d_SG_swap_2 : decode b_SG_swap 2 = .ok (.invokestatic 42, 3) := by decide +kernel
theorem d_SG_swap_5 : decode b_SG_swap 5 = .ok (.aload_n 0, 1) := by decide +kernel
theorem d_SG_swap_6 : decode b_SG_swap 6 = .ok (.iload_n 1, 1) := by decide +kernel
theorem d_SG_swap_7 : decode b_SG_swap 7 = .ok (.invokevirtual 129, 3) := by decide +kernel
theorem d_SG_swap_10 : decode b_SG_swap 10 = .ok (.aload_n 0, 1) := by decide +kernel
theorem d_SG_swap_11 : decode b_SG_swap 11 = .ok (.invokevirtual 121, 3) := by decide +kernel
theorem d_SG_swap_14 : decode b_SG_swap 14 = .ok (.ireturn, 1) := by decide +kernel
theorem d_SG_exchange_0 : decode b_SG_exchange 0 = .ok (.aload_n 0, 1) := by decide +kernel
theorem d_SG_exchange_1 : decode b_SG_exchange 1 = .ok (.getfield 16, 3) := by decide +kernel
theorem d_SG_exchange_4 : decode b_SG_exchange 4 = .ok (.iload_n 1, 1) := by decide +kernel
theorem d_SG_exchange_5 : decode b_SG_exchange 5 = .ok (.iaload, 1) := by decide +kernel
theorem d_SG_exchange_6 : decode b_SG_exchange 6 = .ok (.istore_n 2, 1) := by decide +kernel
theorem d_SG_exchange_7 : decode b_SG_exchange 7 = .ok (.aload_n 0, 1) := by decide +kernel
theorem d_SG_exchange_8 : decode b_SG_exchange 8 = .ok (.getfield 16, 3) := by decide +kernel
theorem d_SG_exchange_11 : decode b_SG_exchange 11 = .ok (.iload_n 1, 1) := by decide +kernel
theorem d_SG_exchange_12 : decode b_SG_exchange 12 = .ok (.aload_n 0, 1) := by decide +kernel
theorem d_SG_exchange_13 : decode b_SG_exchange 13 = .ok (.getfield 16, 3) := by decide +kernel
theorem d_SG_exchange_16 : decode b_SG_exchange 16 = .ok (.iload_n 1, 1) := by decide +kernel
theorem d_SG_exchange_17 : decode b_SG_exchange 17 = .ok (.iconst 1, 1) := by decide +kernel
theorem d_SG_exchange_18 : decode b_SG_exchange 18 = .ok (.iadd, 1) := by decide +kernel
theorem d_SG_exchange_19 : decode b_SG_exchange 19 = .ok (.iaload, 1) := by decide +kernel
theorem d_SG_exchange_20 : decode b_SG_exchange 20 = .ok (.iastore, 1) := by decide +kernel
theorem d_SG_exchange_21 : decode b_SG_exchange 21 = .ok (.aload_n 0, 1) := by decide +kernel
theorem d_SG_exchange_22 : decode b_SG_exchange 22 = .ok (.getfield 16, 3) := by decide +kernel
theorem d_SG_exchange_25 : decode b_SG_exchange 25 = .ok (.iload_n 1, 1) := by decide +kernel
theorem d_SG_exchange_26 : decode b_SG_exchange 26 = .ok (.iconst 1, 1) := by decide +kernel
theorem d_SG_exchange_27 : decode b_SG_exchange 27 = .ok (.iadd, 1) := by decide +kernel
theorem d_SG_exchange_28 : decode b_SG_exchange 28 = .ok (.iload_n 2, 1) := by decide +kernel
theorem d_SG_exchange_29 : decode b_SG_exchange 29 = .ok (.iastore, 1) := by decide +kernel
theorem d_SG_exchange_30 : decode b_SG_exchange 30 = .ok (.return_, 1) := by decide +kernel
theorem d_LW_sift_0 : decode b_LW_sift 0 = .ok (.aload_n 2, 1) := by decide +kernel
theorem d_LW_sift_1 : decode b_LW_sift 1 = .ok (.iconst 0, 1) := by decide +kernel
theorem d_LW_sift_2 : decode b_LW_sift 2 = .ok (.aload_n 0, 1) := by decide +kernel
theorem d_LW_sift_3 : decode b_LW_sift 3 = .ok (.iload_n 1, 1) := by decide +kernel
theorem d_LW_sift_4 : decode b_LW_sift 4 = .ok (.invokevirtual 74, 3) := by decide +kernel
theorem d_LW_sift_7 : decode b_LW_sift 7 = .ok (.i2l, 1) := by decide +kernel
theorem d_LW_sift_8 : decode b_LW_sift 8 = .ok (.lastore, 1) := by decide +kernel
theorem d_LW_sift_9 : decode b_LW_sift 9 = .ok (.goto 6, 3) := by decide +kernel
theorem d_LW_sift_12 : decode b_LW_sift 12 = .ok (.astore_n 3, 1) := by decide +kernel
theorem d_LW_sift_13 : decode b_LW_sift 13 = .ok (.iconst 1, 1) := by decide +kernel
theorem d_LW_sift_14 : decode b_LW_sift 14 = .ok (.ireturn, 1) := by decide +kernel
theorem d_LW_sift_15 : decode b_LW_sift 15 = .ok (.iconst 0, 1) := by decide +kernel
theorem d_LW_sift_16 : decode b_LW_sift 16 = .ok (.ireturn, 1) := by decide +kernel
theorem d_SG_sift_0 : decode b_SG_sift 0 = .ok (.iload_n 1, 1) := by decide +kernel
theorem d_SG_sift_1 : decode b_SG_sift 1 = .ok (.bipush 6, 2) := by decide +kernel
theorem d_SG_sift_3 : decode b_SG_sift 3 = .ok (.invokestatic 42, 3) := by decide +kernel
theorem d_SG_sift_6 : decode b_SG_sift 6 = .ok (.aload_n 0, 1) := by decide +kernel
theorem d_SG_sift_7 : decode b_SG_sift 7 = .ok (.aload_n 0, 1) := by decide +kernel
theorem d_SG_sift_8 : decode b_SG_sift 8 = .ok (.iload_n 1, 1) := by decide +kernel
theorem d_SG_sift_9 : decode b_SG_sift 9 = .ok (.invokevirtual 132, 3) := by decide +kernel
theorem d_SG_sift_12 : decode b_SG_sift 12 = .ok (.iconst 0, 1) := by decide +kernel
theorem d_SG_sift_13 : decode b_SG_sift 13 = .ok (.invokevirtual 135, 3) := by decide +kernel
theorem d_SG_sift_16 : decode b_SG_sift 16 = .ok (.iconst 0, 1) := by decide +kernel
theorem d_SG_sift_17 : decode b_SG_sift 17 = .ok (.istore_n 2, 1) := by decide +kernel
theorem d_SG_sift_18 : decode b_SG_sift 18 = .ok (.aload_n 0, 1) := by decide +kernel
theorem d_SG_sift_19 : decode b_SG_sift 19 = .ok (.invokevirtual 121, 3) := by decide +kernel
theorem d_SG_sift_22 : decode b_SG_sift 22 = .ok (.istore_n 3, 1) := by decide +kernel
theorem d_SG_sift_23 : decode b_SG_sift 23 = .ok (.iconst 1, 1) := by decide +kernel
theorem d_SG_sift_24 : decode b_SG_sift 24 = .ok (.istore 4, 2) := by decide +kernel
theorem d_SG_sift_26 : decode b_SG_sift 26 = .ok (.iload 4, 2) := by decide +kernel
theorem d_SG_sift_28 : decode b_SG_sift 28 = .ok (.bipush 6, 2) := by decide +kernel
theorem d_SG_sift_30 : decode b_SG_sift 30 = .ok (.if_icmp .ge 35, 3) := by decide +kernel
theorem d_SG_sift_33 : decode b_SG_sift 33 = .ok (.aload_n 0, 1) := by decide +kernel
theorem d_SG_sift_34 : decode b_SG_sift 34 = .ok (.iload 4, 2) := by decide +kernel
theorem d_SG_sift_36 : decode b_SG_sift 36 = .ok (.iconst 1, 1) := by decide +kernel
theorem d_SG_sift_37 : decode b_SG_sift 37 = .ok (.isub, 1) := by decide +kernel
theorem d_SG_sift_38 : decode b_SG_sift 38 = .ok (.invokevirtual 129, 3) := by decide +kernel
theorem d_SG_sift_41 : decode b_SG_sift 41 = .ok (.aload_n 0, 1) := by decide +kernel
theorem d_SG_sift_42 : decode b_SG_sift 42 = .ok (.invokevirtual 121, 3) := by decide +kernel
theorem d_SG_sift_45 : decode b_SG_sift 45 = .ok (.istore 5, 2) := by decide +kernel
theorem d_SG_sift_47 : decode b_SG_sift 47 = .ok (.iload 5, 2) := by decide +kernel
theorem d_SG_sift_49 : decode b_SG_sift 49 = .ok (.iload_n 3, 1) := by decide +kernel
theorem d_SG_sift_50 : decode b_SG_sift 50 = .ok (.if_icmp .ge 9, 3) := by decide +kernel
theorem d_SG_sift_53 : decode b_SG_sift 53 = .ok (.iload 4, 2) := by decide +kernel
theorem d_SG_sift_55 : decode b_SG_sift 55 = .ok (.istore_n 2, 1) := by decide +kernel
theorem d_SG_sift_56 : decode b_SG_sift 56 = .ok (.iload 5, 2) := by decide +kernel
theorem d_SG_sift_58 : decode b_SG_sift 58 = .ok (.istore_n 3, 1) := by decide +kernel
theorem d_SG_sift_59 : decode b_SG_sift 59 = .ok (.iinc 4 1, 3) := by decide +kernel
theorem d_SG_sift_62 : decode b_SG_sift 62 = .ok (.goto (-36), 3) := by decide +kernel
theorem d_SG_sift_65 : decode b_SG_sift 65 = .ok (.aload_n 0, 1) := by decide +kernel
theorem d_SG_sift_66 : decode b_SG_sift 66 = .ok (.iconst 5, 1) := by decide +kernel
theorem d_SG_sift_67 : decode b_SG_sift 67 = .ok (.iload_n 2, 1) := by decide +kernel
theorem d_SG_sift_68 : decode b_SG_sift 68 = .ok (.invokevirtual 135, 3) := by decide +kernel
theorem d_SG_sift_71 : decode b_SG_sift 71 = .ok (.iload_n 2, 1) := by decide +kernel
theorem d_SG_sift_72 : decode b_SG_sift 72 = .ok (.ireturn, 1) := by decide +kernel
theorem d_SG_levelOf_0 : decode b_SG_levelOf 0 = .ok (.iconst 0, 1) := by decide +kernel
theorem d_SG_levelOf_1 : decode b_SG_levelOf 1 = .ok (.istore_n 2, 1) := by decide +kernel
theorem d_SG_levelOf_2 : decode b_SG_levelOf 2 = .ok (.iconst 0, 1) := by decide +kernel
theorem d_SG_levelOf_3 : decode b_SG_levelOf 3 = .ok (.istore_n 3, 1) := by decide +kernel
theorem d_SG_levelOf_4 : decode b_SG_levelOf 4 = .ok (.iload_n 3, 1) := by decide +kernel
theorem d_SG_levelOf_5 : decode b_SG_levelOf 5 = .ok (.bipush 6, 2) := by decide +kernel
theorem d_SG_levelOf_7 : decode b_SG_levelOf 7 = .ok (.if_icmp .ge 21, 3) := by decide +kernel
theorem d_SG_levelOf_10 : decode b_SG_levelOf 10 = .ok (.aload_n 0, 1) := by decide +kernel
theorem d_SG_levelOf_11 : decode b_SG_levelOf 11 = .ok (.getfield 16, 3) := by decide +kernel
theorem d_SG_levelOf_14 : decode b_SG_levelOf 14 = .ok (.iload_n 3, 1) := by decide +kernel
theorem d_SG_levelOf_15 : decode b_SG_levelOf 15 = .ok (.iaload, 1) := by decide +kernel
theorem d_SG_levelOf_16 : decode b_SG_levelOf 16 = .ok (.iload_n 1, 1) := by decide +kernel
theorem d_SG_levelOf_17 : decode b_SG_levelOf 17 = .ok (.if_icmp .ne 5, 3) := by decide +kernel
theorem d_SG_levelOf_20 : decode b_SG_levelOf 20 = .ok (.iload_n 3, 1) := by decide +kernel
theorem d_SG_levelOf_21 : decode b_SG_levelOf 21 = .ok (.istore_n 2, 1) := by decide +kernel
theorem d_SG_levelOf_22 : decode b_SG_levelOf 22 = .ok (.iinc 3 1, 3) := by decide +kernel
theorem d_SG_levelOf_25 : decode b_SG_levelOf 25 = .ok (.goto (-21), 3) := by decide +kernel
theorem d_SG_levelOf_28 : decode b_SG_levelOf 28 = .ok (.iload_n 2, 1) := by decide +kernel
theorem d_SG_levelOf_29 : decode b_SG_levelOf 29 = .ok (.ireturn, 1) := by decide +kernel
theorem d_SG_raise_0 : decode b_SG_raise 0 = .ok (.iload_n 1, 1) := by decide +kernel
theorem d_SG_raise_1 : decode b_SG_raise 1 = .ok (.istore_n 3, 1) := by decide +kernel
theorem d_SG_raise_2 : decode b_SG_raise 2 = .ok (.iload_n 3, 1) := by decide +kernel
theorem d_SG_raise_3 : decode b_SG_raise 3 = .ok (.iload_n 2, 1) := by decide +kernel
theorem d_SG_raise_4 : decode b_SG_raise 4 = .ok (.if_icmp .le 16, 3) := by decide +kernel
theorem d_SG_raise_7 : decode b_SG_raise 7 = .ok (.aload_n 0, 1) := by decide +kernel
theorem d_SG_raise_8 : decode b_SG_raise 8 = .ok (.iload_n 3, 1) := by decide +kernel
theorem d_SG_raise_9 : decode b_SG_raise 9 = .ok (.iconst 1, 1) := by decide +kernel
theorem d_SG_raise_10 : decode b_SG_raise 10 = .ok (.isub, 1) := by decide +kernel
theorem d_SG_raise_11 : decode b_SG_raise 11 = .ok (.invokevirtual 129, 3) := by decide +kernel
theorem d_SG_raise_14 : decode b_SG_raise 14 = .ok (.iinc 3 (-1), 3) := by decide +kernel
theorem d_SG_raise_17 : decode b_SG_raise 17 = .ok (.goto (-15), 3) := by decide +kernel
theorem d_SG_raise_20 : decode b_SG_raise 20 = .ok (.return_, 1) := by decide +kernel
theorem d_MD_init_0 : decode b_MD_init 0 = .ok (.aload_n 0, 1) := by decide +kernel
theorem d_MD_init_1 : decode b_MD_init 1 = .ok (.invokespecial 1, 3) := by decide +kernel
theorem d_MD_init_4 : decode b_MD_init 4 = .ok (.aload_n 0, 1) := by decide +kernel
theorem d_MD_init_5 : decode b_MD_init 5 = .ok (.bipush 8, 2) := by decide +kernel
theorem d_MD_init_7 : decode b_MD_init 7 = .ok (.newarray .long, 2) := by decide +kernel
theorem d_MD_init_9 : decode b_MD_init 9 = .ok (.putfield 7, 3) := by decide +kernel
theorem d_MD_init_12 : decode b_MD_init 12 = .ok (.aload_n 0, 1) := by decide +kernel
theorem d_MD_init_13 : decode b_MD_init 13 = .ok (.bipush 8, 2) := by decide +kernel
theorem d_MD_init_15 : decode b_MD_init 15 = .ok (.newarray .boolean, 2) := by decide +kernel
theorem d_MD_init_17 : decode b_MD_init 17 = .ok (.putfield 13, 3) := by decide +kernel
theorem d_MD_init_20 : decode b_MD_init 20 = .ok (.aload_n 0, 1) := by decide +kernel
theorem d_MD_init_21 : decode b_MD_init 21 = .ok (.bipush 6, 2) := by decide +kernel
theorem d_MD_init_23 : decode b_MD_init 23 = .ok (.newarray .int, 2) := by decide +kernel
theorem d_MD_init_25 : decode b_MD_init 25 = .ok (.putfield 17, 3) := by decide +kernel
theorem d_MD_init_28 : decode b_MD_init 28 = .ok (.aload_n 0, 1) := by decide +kernel
theorem d_MD_init_29 : decode b_MD_init 29 = .ok (.bipush 6, 2) := by decide +kernel
theorem d_MD_init_31 : decode b_MD_init 31 = .ok (.newarray .int, 2) := by decide +kernel
theorem d_MD_init_33 : decode b_MD_init 33 = .ok (.putfield 21, 3) := by decide +kernel
theorem d_MD_init_36 : decode b_MD_init 36 = .ok (.aload_n 0, 1) := by decide +kernel
theorem d_MD_init_37 : decode b_MD_init 37 = .ok (.bipush 40, 2) := by decide +kernel
theorem d_MD_init_39 : decode b_MD_init 39 = .ok (.newarray .int, 2) := by decide +kernel
theorem d_MD_init_41 : decode b_MD_init 41 = .ok (.putfield 24, 3) := by decide +kernel
theorem d_MD_init_44 : decode b_MD_init 44 = .ok (.aload_n 0, 1) := by decide +kernel
theorem d_MD_init_45 : decode b_MD_init 45 = .ok (.sipush 256, 3) := by decide +kernel
theorem d_MD_init_48 : decode b_MD_init 48 = .ok (.newarray .long, 2) := by decide +kernel
theorem d_MD_init_50 : decode b_MD_init 50 = .ok (.putfield 27, 3) := by decide +kernel
theorem d_MD_init_53 : decode b_MD_init 53 = .ok (.aload_n 0, 1) := by decide +kernel
theorem d_MD_init_54 : decode b_MD_init 54 = .ok (.bipush 48, 2) := by decide +kernel
theorem d_MD_init_56 : decode b_MD_init 56 = .ok (.newarray .int, 2) := by decide +kernel
theorem d_MD_init_58 : decode b_MD_init 58 = .ok (.putfield 30, 3) := by decide +kernel
theorem d_MD_init_61 : decode b_MD_init 61 = .ok (.aload_n 0, 1) := by decide +kernel
theorem d_MD_init_62 : decode b_MD_init 62 = .ok (.bipush 48, 2) := by decide +kernel
theorem d_MD_init_64 : decode b_MD_init 64 = .ok (.newarray .long, 2) := by decide +kernel
theorem d_MD_init_66 : decode b_MD_init 66 = .ok (.putfield 33, 3) := by decide +kernel
theorem d_MD_init_69 : decode b_MD_init 69 = .ok (.iconst 0, 1) := by decide +kernel
theorem d_MD_init_70 : decode b_MD_init 70 = .ok (.istore_n 1, 1) := by decide +kernel
theorem d_MD_init_71 : decode b_MD_init 71 = .ok (.iload_n 1, 1) := by decide +kernel
theorem d_MD_init_72 : decode b_MD_init 72 = .ok (.bipush 6, 2) := by decide +kernel
theorem d_MD_init_74 : decode b_MD_init 74 = .ok (.if_icmp .ge 16, 3) := by decide +kernel
theorem d_MD_init_77 : decode b_MD_init 77 = .ok (.aload_n 0, 1) := by decide +kernel
theorem d_MD_init_78 : decode b_MD_init 78 = .ok (.getfield 17, 3) := by decide +kernel
theorem d_MD_init_81 : decode b_MD_init 81 = .ok (.iload_n 1, 1) := by decide +kernel
theorem d_MD_init_82 : decode b_MD_init 82 = .ok (.iload_n 1, 1) := by decide +kernel
theorem d_MD_init_83 : decode b_MD_init 83 = .ok (.iastore, 1) := by decide +kernel
theorem d_MD_init_84 : decode b_MD_init 84 = .ok (.iinc 1 1, 3) := by decide +kernel
theorem d_MD_init_87 : decode b_MD_init 87 = .ok (.goto (-16), 3) := by decide +kernel
theorem d_MD_init_90 : decode b_MD_init 90 = .ok (.return_, 1) := by decide +kernel
theorem d_MD_thrown_0 : decode b_MD_thrown 0 = .ok (.aload_n 0, 1) := by decide +kernel
theorem d_MD_thrown_1 : decode b_MD_thrown 1 = .ok (.getfield 36, 3) := by decide +kernel
theorem d_MD_thrown_4 : decode b_MD_thrown 4 = .ok (.ireturn, 1) := by decide +kernel
theorem d_MD_set_0 : decode b_MD_set 0 = .ok (.aload_n 0, 1) := by decide +kernel
theorem d_MD_set_1 : decode b_MD_set 1 = .ok (.iload_n 1, 1) := by decide +kernel
theorem d_MD_set_2 : decode b_MD_set 2 = .ok (.invokestatic 54, 3) := by decide +kernel
theorem d_MD_set_5 : decode b_MD_set 5 = .ok (.ifCond .eq 17, 3) := by decide +kernel
theorem d_MD_set_8 : decode b_MD_set 8 = .ok (.iload_n 2, 1) := by decide +kernel
theorem d_MD_set_9 : decode b_MD_set 9 = .ok (.iconst 0, 1) := by decide +kernel
theorem d_MD_set_10 : decode b_MD_set 10 = .ok (.bipush 13, 2) := by decide +kernel
