theorem d_SG_init_0 : decode b_SG_init 0 = .ok (.aload_n 0, 1) := by decide +kernel
theorem d_SG_init_1 : decode b_SG_init 1 = .ok (.invokespecial 3, 3) := by decide +kernel
theorem d_SG_init_4 : decode b_SG_init 4 = .ok (.aload_n 0, 1) := by decide +kernel
theorem d_SG_init_5 : decode b_SG_init 5 = .ok (.new 9, 3) := by decide +kernel
theorem d_SG_init_8 : decode b_SG_init 8 = .ok (.dup, 1) := by decide +kernel
theorem d_SG_init_9 : decode b_SG_init 9 = .ok (.invokespecial 11, 3) := by decide +kernel
theorem d_SG_init_12 : decode b_SG_init 12 = .ok (.putfield 12, 3) := by decide +kernel
theorem d_SG_init_15 : decode b_SG_init 15 = .ok (.aload_n 0, 1) := by decide +kernel
theorem d_SG_init_16 : decode b_SG_init 16 = .ok (.bipush 6, 2) := by decide +kernel
theorem d_SG_init_18 : decode b_SG_init 18 = .ok (.newarray .int, 2) := by decide +kernel
theorem d_SG_init_20 : decode b_SG_init 20 = .ok (.putfield 16, 3) := by decide +kernel
theorem d_SG_init_23 : decode b_SG_init 23 = .ok (.iconst 0, 1) := by decide +kernel
theorem d_SG_init_24 : decode b_SG_init 24 = .ok (.istore_n 1, 1) := by decide +kernel
theorem d_SG_init_25 : decode b_SG_init 25 = .ok (.iload_n 1, 1) := by decide +kernel
theorem d_SG_init_26 : decode b_SG_init 26 = .ok (.bipush 6, 2) := by decide +kernel
theorem d_SG_init_28 : decode b_SG_init 28 = .ok (.if_icmp .ge 16, 3) := by decide +kernel
theorem d_SG_init_31 : decode b_SG_init 31 = .ok (.aload_n 0, 1) := by decide +kernel
theorem d_SG_init_32 : decode b_SG_init 32 = .ok (.getfield 16, 3) := by decide +kernel
theorem d_SG_init_35 : decode b_SG_init 35 = .ok (.iload_n 1, 1) := by decide +kernel
theorem d_SG_init_36 : decode b_SG_init 36 = .ok (.iload_n 1, 1) := by decide +kernel
theorem d_SG_init_37 : decode b_SG_init 37 = .ok (.iastore, 1) := by decide +kernel
theorem d_SG_init_38 : decode b_SG_init 38 = .ok (.iinc 1 1, 3) := by decide +kernel
theorem d_SG_init_41 : decode b_SG_init 41 = .ok (.goto (-16), 3) := by decide +kernel
theorem d_SG_init_44 : decode b_SG_init 44 = .ok (.aload_n 0, 1) := by decide +kernel
theorem d_SG_init_45 : decode b_SG_init 45 = .ok (.bipush 40, 2) := by decide +kernel
theorem d_SG_init_47 : decode b_SG_init 47 = .ok (.newarray .char, 2) := by decide +kernel
theorem d_SG_init_49 : decode b_SG_init 49 = .ok (.putfield 20, 3) := by decide +kernel
theorem d_SG_init_52 : decode b_SG_init 52 = .ok (.aload_n 0, 1) := by decide +kernel
theorem d_SG_init_53 : decode b_SG_init 53 = .ok (.iconst 0, 1) := by decide +kernel
theorem d_SG_init_54 : decode b_SG_init 54 = .ok (.putfield 24, 3) := by decide +kernel
theorem d_SG_init_57 : decode b_SG_init 57 = .ok (.aload_n 0, 1) := by decide +kernel
theorem d_SG_init_58 : decode b_SG_init 58 = .ok (.new 28, 3) := by decide +kernel
theorem d_SG_init_61 : decode b_SG_init 61 = .ok (.dup, 1) := by decide +kernel
theorem d_SG_init_62 : decode b_SG_init 62 = .ok (.invokespecial 30, 3) := by decide +kernel
theorem d_SG_init_65 : decode b_SG_init 65 = .ok (.putfield 31, 3) := by decide +kernel
theorem d_SG_init_68 : decode b_SG_init 68 = .ok (.aload_n 0, 1) := by decide +kernel
theorem d_SG_init_69 : decode b_SG_init 69 = .ok (.new 35, 3) := by decide +kernel
theorem d_SG_init_72 : decode b_SG_init 72 = .ok (.dup, 1) := by decide +kernel
theorem d_SG_init_73 : decode b_SG_init 73 = .ok (.invokespecial 37, 3) := by decide +kernel
theorem d_SG_init_76 : decode b_SG_init 76 = .ok (.putfield 38, 3) := by decide +kernel
theorem d_SG_init_79 : decode b_SG_init 79 = .ok (.return_, 1) := by decide +kernel
theorem d_RG_init_0 : decode b_RG_init 0 = .ok (.aload_n 0, 1) := by decide +kernel
theorem d_RG_init_1 : decode b_RG_init 1 = .ok (.invokespecial 3, 3) := by decide +kernel
theorem d_RG_init_4 : decode b_RG_init 4 = .ok (.aload_n 0, 1) := by decide +kernel
theorem d_RG_init_5 : decode b_RG_init 5 = .ok (.bipush 8, 2) := by decide +kernel
theorem d_RG_init_7 : decode b_RG_init 7 = .ok (.newarray .long, 2) := by decide +kernel
theorem d_RG_init_9 : decode b_RG_init 9 = .ok (.putfield 9, 3) := by decide +kernel
theorem d_RG_init_12 : decode b_RG_init 12 = .ok (.aload_n 0, 1) := by decide +kernel
theorem d_RG_init_13 : decode b_RG_init 13 = .ok (.bipush 8, 2) := by decide +kernel
theorem d_RG_init_15 : decode b_RG_init 15 = .ok (.newarray .boolean, 2) := by decide +kernel
theorem d_RG_init_17 : decode b_RG_init 17 = .ok (.putfield 15, 3) := by decide +kernel
theorem d_RG_init_20 : decode b_RG_init 20 = .ok (.return_, 1) := by decide +kernel
theorem d_FR_init_0 : decode b_FR_init 0 = .ok (.aload_n 0, 1) := by decide +kernel
theorem d_FR_init_1 : decode b_FR_init 1 = .ok (.invokespecial 3, 3) := by decide +kernel
theorem d_FR_init_4 : decode b_FR_init 4 = .ok (.aload_n 0, 1) := by decide +kernel
theorem d_FR_init_5 : decode b_FR_init 5 = .ok (.bipush 6, 2) := by decide +kernel
theorem d_FR_init_7 : decode b_FR_init 7 = .ok (.newarray .long, 2) := by decide +kernel
theorem d_FR_init_9 : decode b_FR_init 9 = .ok (.putfield 11, 3) := by decide +kernel
theorem d_FR_init_12 : decode b_FR_init 12 = .ok (.aload_n 0, 1) := by decide +kernel
theorem d_FR_init_13 : decode b_FR_init 13 = .ok (.bipush 6, 2) := by decide +kernel
theorem d_FR_init_15 : decode b_FR_init 15 = .ok (.newarray .long, 2) := by decide +kernel
theorem d_FR_init_17 : decode b_FR_init 17 = .ok (.putfield 15, 3) := by decide +kernel
theorem d_FR_init_20 : decode b_FR_init 20 = .ok (.aload_n 0, 1) := by decide +kernel
theorem d_FR_init_21 : decode b_FR_init 21 = .ok (.bipush 6, 2) := by decide +kernel
theorem d_FR_init_23 : decode b_FR_init 23 = .ok (.newarray .long, 2) := by decide +kernel
theorem d_FR_init_25 : decode b_FR_init 25 = .ok (.putfield 18, 3) := by decide +kernel
theorem d_FR_init_28 : decode b_FR_init 28 = .ok (.aload_n 0, 1) := by decide +kernel
theorem d_FR_init_29 : decode b_FR_init 29 = .ok (.bipush 6, 2) := by decide +kernel
theorem d_FR_init_31 : decode b_FR_init 31 = .ok (.newarray .long, 2) := by decide +kernel
theorem d_FR_init_33 : decode b_FR_init 33 = .ok (.putfield 21, 3) := by decide +kernel
theorem d_FR_init_36 : decode b_FR_init 36 = .ok (.return_, 1) := by decide +kernel
theorem d_NC_init_0 : decode b_NC_init 0 = .ok (.aload_n 0, 1) := by decide +kernel
theorem d_NC_init_1 : decode b_NC_init 1 = .ok (.invokespecial 3, 3) := by decide +kernel
theorem d_NC_init_4 : decode b_NC_init 4 = .ok (.aload_n 0, 1) := by decide +kernel
theorem d_NC_init_5 : decode b_NC_init 5 = .ok (.bipush 64, 2) := by decide +kernel
theorem d_NC_init_7 : decode b_NC_init 7 = .ok (.newarray .long, 2) := by decide +kernel
theorem d_NC_init_9 : decode b_NC_init 9 = .ok (.putfield 11, 3) := by decide +kernel
theorem d_NC_init_12 : decode b_NC_init 12 = .ok (.aload_n 0, 1) := by decide +kernel
theorem d_NC_init_13 : decode b_NC_init 13 = .ok (.bipush 64, 2) := by decide +kernel
theorem d_NC_init_15 : decode b_NC_init 15 = .ok (.newarray .long, 2) := by decide +kernel
theorem d_NC_init_17 : decode b_NC_init 17 = .ok (.putfield 15, 3) := by decide +kernel
theorem d_NC_init_20 : decode b_NC_init 20 = .ok (.aload_n 0, 1) := by decide +kernel
theorem d_NC_init_21 : decode b_NC_init 21 = .ok (.bipush 6, 2) := by decide +kernel
theorem d_NC_init_23 : decode b_NC_init 23 = .ok (.newarray .int, 2) := by decide +kernel
theorem d_NC_init_25 : decode b_NC_init 25 = .ok (.putfield 18, 3) := by decide +kernel
theorem d_NC_init_28 : decode b_NC_init 28 = .ok (.return_, 1) := by decide +kernel
theorem d_SG_shared_0 : decode b_SG_shared 0 = .ok (.aload_n 0, 1) := by decide +kernel
theorem d_SG_shared_1 : decode b_SG_shared 1 = .ok (.invokevirtual 121, 3) := by decide +kernel
theorem d_SG_shared_4 : decode b_SG_shared 4 = .ok (.ireturn, 1) := by decide +kernel
theorem d_SG_nodesOfAll_0 : decode b_SG_nodesOfAll 0 = .ok (.aload_n 0, 1) := by decide +kernel
theorem d_SG_nodesOfAll_1 : decode b_SG_nodesOfAll 1 = .ok (.getfield 38, 3) := by decide +kernel
theorem d_SG_nodesOfAll_4 : decode b_SG_nodesOfAll 4 = .ok (.invokevirtual 110, 3) := by decide +kernel
theorem d_SG_nodesOfAll_7 : decode b_SG_nodesOfAll 7 = .ok (.iconst 0, 1) := by decide +kernel
theorem d_SG_nodesOfAll_8 : decode b_SG_nodesOfAll 8 = .ok (.istore_n 1, 1) := by decide +kernel
theorem d_SG_nodesOfAll_9 : decode b_SG_nodesOfAll 9 = .ok (.iload_n 1, 1) := by decide +kernel
theorem d_SG_nodesOfAll_10 : decode b_SG_nodesOfAll 10 = .ok (.bipush 8, 2) := by decide +kernel
theorem d_SG_nodesOfAll_12 : decode b_SG_nodesOfAll 12 = .ok (.if_icmp .ge 35, 3) := by decide +kernel
theorem d_SG_nodesOfAll_15 : decode b_SG_nodesOfAll 15 = .ok (.aload_n 0, 1) := by decide +kernel
theorem d_SG_nodesOfAll_16 : decode b_SG_nodesOfAll 16 = .ok (.getfield 12, 3) := by decide +kernel
theorem d_SG_nodesOfAll_19 : decode b_SG_nodesOfAll 19 = .ok (.iload_n 1, 1) := by decide +kernel
theorem d_SG_nodesOfAll_20 : decode b_SG_nodesOfAll 20 = .ok (.invokevirtual 89, 3) := by decide +kernel
theorem d_SG_nodesOfAll_23 : decode b_SG_nodesOfAll 23 = .ok (.ifCond .eq 18, 3) := by decide +kernel
theorem d_SG_nodesOfAll_26 : decode b_SG_nodesOfAll 26 = .ok (.aload_n 0, 1) := by decide +kernel
theorem d_SG_nodesOfAll_27 : decode b_SG_nodesOfAll 27 = .ok (.getfield 38, 3) := by decide +kernel
theorem d_SG_nodesOfAll_30 : decode b_SG_nodesOfAll 30 = .ok (.aload_n 0, 1) := by decide +kernel
theorem d_SG_nodesOfAll_31 : decode b_SG_nodesOfAll 31 = .ok (.getfield 12, 3) := by decide +kernel
theorem d_SG_nodesOfAll_34 : decode b_SG_nodesOfAll 34 = .ok (.iload_n 1, 1) := by decide +kernel
theorem d_SG_nodesOfAll_35 : decode b_SG_nodesOfAll 35 = .ok (.invokevirtual 141, 3) := by decide +kernel
theorem d_SG_nodesOfAll_38 : decode b_SG_nodesOfAll 38 = .ok (.invokevirtual 113, 3) := by decide +kernel
theorem d_SG_nodesOfAll_41 : decode b_SG_nodesOfAll 41 = .ok (.iinc 1 1, 3) := by decide +kernel
theorem d_SG_nodesOfAll_44 : decode b_SG_nodesOfAll 44 = .ok (.goto (-35), 3) := by decide +kernel
theorem d_SG_nodesOfAll_47 : decode b_SG_nodesOfAll 47 = .ok (.aload_n 0, 1) := by decide +kernel
theorem d_SG_nodesOfAll_48 : decode b_SG_nodesOfAll 48 = .ok (.getfield 38, 3) := by decide +kernel
theorem d_SG_nodesOfAll_51 : decode b_SG_nodesOfAll 51 = .ok (.aload_n 0, 1) := by decide +kernel
theorem d_SG_nodesOfAll_52 : decode b_SG_nodesOfAll 52 = .ok (.getfield 16, 3) := by decide +kernel
theorem d_SG_nodesOfAll_55 : decode b_SG_nodesOfAll 55 = .ok (.invokevirtual 117, 3) := by decide +kernel
theorem d_SG_nodesOfAll_58 : decode b_SG_nodesOfAll 58 = .ok (.ireturn, 1) := by decide +kernel
theorem d_NC_begin_0 : decode b_NC_begin 0 = .ok (.aload_n 0, 1) := by decide +kernel
theorem d_NC_begin_1 : decode b_NC_begin 1 = .ok (.iconst 0, 1) := by decide +kernel
theorem d_NC_begin_2 : decode b_NC_begin 2 = .ok (.putfield 22, 3) := by decide +kernel
theorem d_NC_begin_5 : decode b_NC_begin 5 = .ok (.return_, 1) := by decide +kernel
theorem d_RG_isHeld_0 : decode b_RG_isHeld 0 = .ok (.aload_n 0, 1) := by decide +kernel
theorem d_RG_isHeld_1 : decode b_RG_isHeld 1 = .ok (.getfield 15, 3) := by decide +kernel
theorem d_RG_isHeld_4 : decode b_RG_isHeld 4 = .ok (.iload_n 1, 1) := by decide +kernel
theorem d_RG_isHeld_5 : decode b_RG_isHeld 5 = .ok (.baload, 1) := by decide +kernel
theorem d_RG_isHeld_6 : decode b_RG_isHeld 6 = .ok (.ireturn, 1) := by decide +kernel
theorem d_RG_table_0 : decode b_RG_table 0 = .ok (.aload_n 0, 1) := by decide +kernel
theorem d_RG_table_1 : decode b_RG_table 1 = .ok (.getfield 9, 3) := by decide +kernel
theorem d_RG_table_4 : decode b_RG_table 4 = .ok (.iload_n 1, 1) := by decide +kernel
theorem d_RG_table_5 : decode b_RG_table 5 = .ok (.laload, 1) := by decide +kernel
theorem d_RG_table_6 : decode b_RG_table 6 = .ok (.lreturn, 1) := by decide +kernel
theorem d_NC_add_0 : decode b_NC_add 0 = .ok (.iconst 0, 1) := by decide +kernel
theorem d_NC_add_1 : decode b_NC_add 1 = .ok (.istore_n 3, 1) := by decide +kernel
theorem d_NC_add_2 : decode b_NC_add 2 = .ok (.iload_n 3, 1) := by decide +kernel
theorem d_NC_add_3 : decode b_NC_add 3 = .ok (.aload_n 0, 1) := by decide +kernel
theorem d_NC_add_4 : decode b_NC_add 4 = .ok (.getfield 22, 3) := by decide +kernel
theorem d_NC_add_7 : decode b_NC_add 7 = .ok (.if_icmp .ge 21, 3) := by decide +kernel
theorem d_NC_add_10 : decode b_NC_add 10 = .ok (.aload_n 0, 1) := by decide +kernel
theorem d_NC_add_11 : decode b_NC_add 11 = .ok (.getfield 15, 3) := by decide +kernel
theorem d_NC_add_14 : decode b_NC_add 14 = .ok (.iload_n 3, 1) := by decide +kernel
theorem d_NC_add_15 : decode b_NC_add 15 = .ok (.laload, 1) := by decide +kernel
theorem d_NC_add_16 : decode b_NC_add 16 = .ok (.lload_n 1, 1) := by decide +kernel
theorem d_NC_add_17 : decode b_NC_add 17 = .ok (.lcmp, 1) := by decide +kernel
theorem d_NC_add_18 : decode b_NC_add 18 = .ok (.ifCond .ne 4, 3) := by decide +kernel
theorem d_NC_add_21 : decode b_NC_add 21 = .ok (.return_, 1) := by decide +kernel
theorem d_NC_add_22 : decode b_NC_add 22 = .ok (.iinc 3 1, 3) := by decide +kernel
theorem d_NC_add_25 : decode b_NC_add 25 = .ok (.goto (-23), 3) := by decide +kernel
theorem d_NC_add_28 : decode b_NC_add 28 = .ok (.aload_n 0, 1) := by decide +kernel
theorem d_NC_add_29 : decode b_NC_add 29 = .ok (.getfield 22, 3) := by decide +kernel
theorem d_NC_add_32 : decode b_NC_add 32 = .ok (.bipush 64, 2) := by decide +kernel
theorem d_NC_add_34 : decode b_NC_add 34 = .ok (.if_icmp .ge 23, 3) := by decide +kernel
theorem d_NC_add_37 : decode b_NC_add 37 = .ok (.aload_n 0, 1) := by decide +kernel
theorem d_NC_add_38 : decode b_NC_add 38 = .ok (.getfield 15, 3) := by decide +kernel
theorem d_NC_add_41 : decode b_NC_add 41 = .ok (.aload_n 0, 1) := by decide +kernel
theorem d_NC_add_42 : decode b_NC_add 42 = .ok (.getfield 22, 3) := by decide +kernel
theorem d_NC_add_45 : decode b_NC_add 45 = .ok (.lload_n 1, 1) := by decide +kernel
theorem d_NC_add_46 : decode b_NC_add 46 = .ok (.lastore, 1) := by decide +kernel
theorem d_NC_add_47 : decode b_NC_add 47 = .ok (.aload_n 0, 1) := by decide +kernel
theorem d_NC_add_48 : decode b_NC_add 48 = .ok (.dup, 1) := by decide +kernel
theorem d_NC_add_49 : decode b_NC_add 49 = .ok (.getfield 22, 3) := by decide +kernel
theorem d_NC_add_52 : decode b_NC_add 52 = .ok (.iconst 1, 1) := by decide +kernel
theorem d_NC_add_53 : decode b_NC_add 53 = .ok (.iadd, 1) := by decide +kernel
theorem d_NC_add_54 : decode b_NC_add 54 = .ok (.putfield 22, 3) := by decide +kernel
theorem d_NC_add_57 : decode b_NC_add 57 = .ok (.return_, 1) := by decide +kernel
theorem d_NC_total_0 : decode b_NC_total 0 = .ok (.iconst 0, 1) := by decide +kernel
theorem d_NC_total_1 : decode b_NC_total 1 = .ok (.istore_n 2, 1) := by decide +kernel
theorem d_NC_total_2 : decode b_NC_total 2 = .ok (.iconst 0, 1) := by decide +kernel
theorem d_NC_total_3 : decode b_NC_total 3 = .ok (.istore_n 3, 1) := by decide +kernel
theorem d_NC_total_4 : decode b_NC_total 4 = .ok (.iload_n 3, 1) := by decide +kernel
theorem d_NC_total_5 : decode b_NC_total 5 = .ok (.bipush 6, 2) := by decide +kernel
theorem d_NC_total_7 : decode b_NC_total 7 = .ok (.if_icmp .ge 35, 3) := by decide +kernel
theorem d_NC_total_10 : decode b_NC_total 10 = .ok (.aload_n 0, 1) := by decide +kernel
theorem d_NC_total_11 : decode b_NC_total 11 = .ok (.invokevirtual 26, 3) := by decide +kernel
theorem d_NC_total_14 : decode b_NC_total 14 = .ok (.aload_n 0, 1) := by decide +kernel
theorem d_NC_total_15 : decode b_NC_total 15 = .ok (.getfield 18, 3) := by decide +kernel
theorem d_NC_total_18 : decode b_NC_total 18 = .ok (.iload_n 3, 1) := by decide +kernel
theorem d_NC_total_19 : decode b_NC_total 19 = .ok (.aload_n 0, 1) := by decide +kernel
theorem d_NC_total_20 : decode b_NC_total 20 = .ok (.aload_n 1, 1) := by decide +kernel
theorem d_NC_total_21 : decode b_NC_total 21 = .ok (.iload_n 3, 1) := by decide +kernel
theorem d_NC_total_22 : decode b_NC_total 22 = .ok (.iaload, 1) := by decide +kernel
theorem d_NC_total_23 : decode b_NC_total 23 = .ok (.invokevirtual 29, 3) := by decide +kernel
theorem d_NC_total_26 : decode b_NC_total 26 = .ok (.iastore, 1) := by decide +kernel
theorem d_NC_total_27 : decode b_NC_total 27 = .ok (.iload_n 2, 1) := by decide +kernel
theorem d_NC_total_28 : decode b_NC_total 28 = .ok (.aload_n 0, 1) := by decide +kernel
theorem d_NC_total_29 : decode b_NC_total 29 = .ok (.getfield 18, 3) := by decide +kernel
theorem d_NC_total_32 : decode b_NC_total 32 = .ok (.iload_n 3, 1) := by decide +kernel
theorem d_NC_total_33 : decode b_NC_total 33 = .ok (.iaload, 1) := by decide +kernel
theorem d_NC_total_34 : decode b_NC_total 34 = .ok (.iadd, 1) := by decide +kernel
theorem d_NC_total_35 : decode b_NC_total 35 = .ok (.istore_n 2, 1) := by decide +kernel
theorem d_NC_total_36 : decode b_NC_total 36 = .ok (.iinc 3 1, 3) := by decide +kernel
theorem d_NC_total_39 : decode b_NC_total 39 = .ok (.goto (-35), 3) := by decide +kernel
theorem d_NC_total_42 : decode b_NC_total 42 = .ok (.iload_n 2, 1) := by decide +kernel
theorem d_NC_total_43 : decode b_NC_total 43 = .ok (.ireturn, 1) := by decide +kernel
theorem d_NC_goDown_0 : decode b_NC_goDown 0 = .ok (.aload_n 0, 1) := by decide +kernel
theorem d_NC_goDown_1 : decode b_NC_goDown 1 = .ok (.getfield 11, 3) := by decide +kernel
theorem d_NC_goDown_4 : decode b_NC_goDown 4 = .ok (.astore_n 1, 1) := by decide +kernel
theorem d_NC_goDown_5 : decode b_NC_goDown 5 = .ok (.aload_n 0, 1) := by decide +kernel
theorem d_NC_goDown_6 : decode b_NC_goDown 6 = .ok (.aload_n 0, 1) := by decide +kernel
theorem d_NC_goDown_7 : decode b_NC_goDown 7 = .ok (.getfield 15, 3) := by decide +kernel
theorem d_NC_goDown_10 : decode b_NC_goDown 10 = .ok (.putfield 11, 3) := by decide +kernel
theorem d_NC_goDown_13 : decode b_NC_goDown 13 = .ok (.aload_n 0, 1) := by decide +kernel
theorem d_NC_goDown_14 : decode b_NC_goDown 14 = .ok (.aload_n 0, 1) := by decide +kernel
theorem d_NC_goDown_15 : decode b_NC_goDown 15 = .ok (.getfield 22, 3) := by decide +kernel
theorem d_NC_goDown_18 : decode b_NC_goDown 18 = .ok (.putfield 33, 3) := by decide +kernel
theorem d_NC_goDown_21 : decode b_NC_goDown 21 = .ok (.aload_n 0, 1) := by decide +kernel
theorem d_NC_goDown_22 : decode b_NC_goDown 22 = .ok (.aload_n 1, 1) := by decide +kernel
theorem d_NC_goDown_23 : decode b_NC_goDown 23 = .ok (.putfield 15, 3) := by decide +kernel
theorem d_NC_goDown_26 : decode b_NC_goDown 26 = .ok (.aload_n 0, 1) := by decide +kernel
theorem d_NC_goDown_27 : decode b_NC_goDown 27 = .ok (.iconst 0, 1) := by decide +kernel
theorem d_NC_goDown_28 : decode b_NC_goDown 28 = .ok (.putfield 22, 3) := by decide +kernel
theorem d_NC_goDown_31 : decode b_NC_goDown 31 = .ok (.return_, 1) := by decide +kernel
theorem d_NC_branch_0 : decode b_NC_branch 0 = .ok (.iconst 0, 1) := by decide +kernel
theorem d_NC_branch_1 : decode b_NC_branch 1 = .ok (.istore_n 2, 1) := by decide +kernel
theorem d_NC_branch_2 : decode b_NC_branch 2 = .ok (.iconst 0, 1) := by decide +kernel
theorem d_NC_branch_3 : decode b_NC_branch 3 = .ok (.istore_n 3, 1) := by decide +kernel
theorem d_NC_branch_4 : decode b_NC_branch 4 = .ok (.iload_n 3, 1) := by decide +kernel
theorem d_NC_branch_5 : decode b_NC_branch 5 = .ok (.aload_n 0, 1) := by decide +kernel
theorem d_NC_branch_6 : decode b_NC_branch 6 = .ok (.getfield 33, 3) := by decide +kernel
theorem d_NC_branch_9 : decode b_NC_branch 9 = .ok (.if_icmp .ge 56, 3) := by decide +kernel
theorem d_NC_branch_12 : decode b_NC_branch 12 = .ok (.aload_n 0, 1) := by decide +kernel
theorem d_NC_branch_13 : decode b_NC_branch 13 = .ok (.getfield 11, 3) := by decide +kernel
theorem d_NC_branch_16 : decode b_NC_branch 16 = .ok (.iload_n 3, 1) := by decide +kernel
theorem d_NC_branch_17 : decode b_NC_branch 17 = .ok (.laload, 1) := by decide +kernel
theorem d_NC_branch_18 : decode b_NC_branch 18 = .ok (.iload_n 1, 1) := by decide +kernel
theorem d_NC_branch_19 : decode b_NC_branch 19 = .ok (.invokestatic 36, 3) := by decide +kernel
theorem d_NC_branch_22 : decode b_NC_branch 22 = .ok (.lstore 4, 2) := by decide +kernel
theorem d_NC_branch_24 : decode b_NC_branch 24 = .ok (.aload_n 0, 1) := by decide +kernel
theorem d_NC_branch_25 : decode b_NC_branch 25 = .ok (.getfield 11, 3) := by decide +kernel
theorem d_NC_branch_28 : decode b_NC_branch 28 = .ok (.iload_n 3, 1) := by decide +kernel
theorem d_NC_branch_29 : decode b_NC_branch 29 = .ok (.laload, 1) := by decide +kernel
theorem d_NC_branch_30 : decode b_NC_branch 30 = .ok (.iload_n 1, 1) := by decide +kernel
theorem d_NC_branch_31 : decode b_NC_branch 31 = .ok (.invokestatic 42, 3) := by decide +kernel
theorem d_NC_branch_34 : decode b_NC_branch 34 = .ok (.lstore 6, 2) := by decide +kernel
theorem d_NC_branch_36 : decode b_NC_branch 36 = .ok (.aload_n 0, 1) := by decide +kernel
theorem d_NC_branch_37 : decode b_NC_branch 37 = .ok (.lload 4, 2) := by decide +kernel
theorem d_NC_branch_39 : decode b_NC_branch 39 = .ok (.invokevirtual 45, 3) := by decide +kernel
theorem d_NC_branch_42 : decode b_NC_branch 42 = .ok (.lload 4, 2) := by decide +kernel
theorem d_NC_branch_44 : decode b_NC_branch 44 = .ok (.lload 6, 2) := by decide +kernel
theorem d_NC_branch_46 : decode b_NC_branch 46 = .ok (.lcmp, 1) := by decide +kernel
theorem d_NC_branch_47 : decode b_NC_branch 47 = .ok (.ifCond .eq 12, 3) := by decide +kernel
theorem d_NC_branch_50 : decode b_NC_branch 50 = .ok (.iinc 2 1, 3) := by decide +kernel
theorem d_NC_branch_53 : decode b_NC_branch 53 = .ok (.aload_n 0, 1) := by decide +kernel
theorem d_NC_branch_54 : decode b_NC_branch 54 = .ok (.lload 6, 2) := by decide +kernel
theorem d_NC_branch_56 : decode b_NC_branch 56 = .ok (.invokevirtual 45, 3) := by decide +kernel
theorem d_NC_branch_59 : decode b_NC_branch 59 = .ok (.iinc 3 1, 3) := by decide +kernel
theorem d_NC_branch_62 : decode b_NC_branch 62 = .ok (.goto (-58), 3) := by decide +kernel
theorem d_NC_branch_65 : decode b_NC_branch 65 = .ok (.iload_n 2, 1) := by decide +kernel
theorem d_NC_branch_66 : decode b_NC_branch 66 = .ok (.ireturn, 1) := by decide +kernel
theorem d_TB_withZero_0 : decode b_TB_withZero 0 = .ok (.lload_n 0, 1) := by decide +kernel
theorem d_TB_withZero_1 : decode b_TB_withZero 1 = .ok (.getstatic 9, 3) := by decide +kernel
theorem d_TB_withZero_4 : decode b_TB_withZero 4 = .ok (.iload_n 2, 1) := by decide +kernel
theorem d_TB_withZero_5 : decode b_TB_withZero 5 = .ok (.laload, 1) := by decide +kernel
theorem d_TB_withZero_6 : decode b_TB_withZero 6 = .ok (.ldc2_w 15, 3) := by decide +kernel
theorem d_TB_withZero_9 : decode b_TB_withZero 9 = .ok (.lxor, 1) := by decide +kernel
theorem d_TB_withZero_10 : decode b_TB_withZero 10 = .ok (.land, 1) := by decide +kernel
theorem d_TB_withZero_11 : decode b_TB_withZero 11 = .ok (.lstore_n 3, 1) := by decide +kernel
theorem d_TB_withZero_12 : decode b_TB_withZero 12 = .ok (.lload_n 3, 1) := by decide +kernel
theorem d_TB_withZero_13 : decode b_TB_withZero 13 = .ok (.lload_n 3, 1) := by decide +kernel
theorem d_TB_withZero_14 : decode b_TB_withZero 14 = .ok (.iload_n 2, 1) := by decide +kernel
theorem d_TB_withZero_15 : decode b_TB_withZero 15 = .ok (.invokestatic 17, 3) := by decide +kernel
theorem d_TB_withZero_18 : decode b_TB_withZero 18 = .ok (.lshl, 1) := by decide +kernel
theorem d_TB_withZero_19 : decode b_TB_withZero 19 = .ok (.lor, 1) := by decide +kernel
theorem d_TB_withZero_20 : decode b_TB_withZero 20 = .ok (.lreturn, 1) := by decide +kernel
theorem d_TB_weight_0 : decode b_TB_weight 0 = .ok (.iconst 1, 1) := by decide +kernel
theorem d_TB_weight_1 : decode b_TB_weight 1 = .ok (.iconst 5, 1) := by decide +kernel
theorem d_TB_weight_2 : decode b_TB_weight 2 = .ok (.iload_n 0, 1) := by decide +kernel
theorem d_TB_weight_3 : decode b_TB_weight 3 = .ok (.isub, 1) := by decide +kernel
theorem d_TB_weight_4 : decode b_TB_weight 4 = .ok (.ishl, 1) := by decide +kernel
theorem d_TB_weight_5 : decode b_TB_weight 5 = .ok (.ireturn, 1) := by decide +kernel
theorem d_TB_withOne_0 : decode b_TB_withOne 0 = .ok (.lload_n 0, 1) := by decide +kernel
theorem d_TB_withOne_1 : decode b_TB_withOne 1 = .ok (.getstatic 9, 3) := by decide +kernel
theorem d_TB_withOne_4 : decode b_TB_withOne 4 = .ok (.iload_n 2, 1) := by decide +kernel
theorem d_TB_withOne_5 : decode b_TB_withOne 5 = .ok (.laload, 1) := by decide +kernel
theorem d_TB_withOne_6 : decode b_TB_withOne 6 = .ok (.land, 1) := by decide +kernel
theorem d_TB_withOne_7 : decode b_TB_withOne 7 = .ok (.lstore_n 3, 1) := by decide +kernel
theorem d_TB_withOne_8 : decode b_TB_withOne 8 = .ok (.lload_n 3, 1) := by decide +kernel
theorem d_TB_withOne_9 : decode b_TB_withOne 9 = .ok (.lload_n 3, 1) := by decide +kernel
theorem d_TB_withOne_10 : decode b_TB_withOne 10 = .ok (.iload_n 2, 1) := by decide +kernel
theorem d_TB_withOne_11 : decode b_TB_withOne 11 = .ok (.invokestatic 17, 3) := by decide +kernel
theorem d_TB_withOne_14 : decode b_TB_withOne 14 = .ok (.lushr, 1) := by decide +kernel
theorem d_TB_withOne_15 : decode b_TB_withOne 15 = .ok (.lor, 1) := by decide +kernel
theorem d_TB_withOne_16 : decode b_TB_withOne 16 = .ok (.lreturn, 1) := by decide +kernel
theorem d_LW_set_0 : decode b_LW_set 0 = .ok (.aload_n 0, 1) := by decide +kernel
theorem d_LW_set_1 : decode b_LW_set 1 = .ok (.iload_n 1, 1) := by decide +kernel
theorem d_LW_set_2 : decode b_LW_set 2 = .ok (.iload_n 2, 1) := by decide +kernel
theorem d_LW_set_3 : decode b_LW_set 3 = .ok (.invokevirtual 7, 3) := by decide +kernel
theorem d_LW_set_6 : decode b_LW_set 6 = .ok (.goto 6, 3) := by decide +kernel
theorem d_LW_set_9 : decode b_LW_set 9 = .ok (.astore_n 3, 1) := by decide +kernel
theorem d_LW_set_10 : decode b_LW_set 10 = .ok (.iconst 1, 1) := by decide +kernel
theorem d_LW_set_11 : decode b_LW_set 11 = .ok (.ireturn, 1) := by decide +kernel
theorem d_LW_set_12 : decode b_LW_set 12 = .ok (.iconst 0, 1) := by decide +kernel
theorem d_LW_set_13 : decode b_LW_set 13 = .ok (.ireturn, 1) := by decide +kernel
theorem d_SG_set_0 : decode b_SG_set 0 = .ok (.iload_n 1, 1) := by decide +kernel
theorem d_SG_set_1 : decode b_SG_set 1 = .ok (.bipush 8, 2) := by decide +kernel
theorem d_SG_set_3 : decode b_SG_set 3 = .ok (.invokestatic 42, 3) := by decide +kernel
theorem d_SG_set_6 : decode b_SG_set 6 = .ok (.iload_n 2, 1) := by decide +kernel
theorem d_SG_set_7 : decode b_SG_set 7 = .ok (.bipush 14, 2) := by decide +kernel
theorem d_SG_set_9 : decode b_SG_set 9 = .ok (.invokestatic 42, 3) := by decide +kernel
theorem d_SG_set_12 : decode b_SG_set 12 = .ok (.iload_n 2, 1) := by decide +kernel
theorem d_SG_set_13 : decode b_SG_set 13 = .ok (.iconst 2, 1) := by decide +kernel
theorem d_SG_set_14 : decode b_SG_set 14 = .ok (.if_icmp .ge 7, 3) := by decide +kernel
theorem d_SG_set_17 : decode b_SG_set 17 = .ok (.lconst 0, 1) := by decide +kernel
theorem d_SG_set_18 : decode b_SG_set 18 = .ok (.goto 11, 3) := by decide +kernel
theorem d_SG_set_21 : decode b_SG_set 21 = .ok (.iload_n 2, 1) := by decide +kernel
theorem d_SG_set_22 : decode b_SG_set 22 = .ok (.iconst 2, 1) := by decide +kernel
theorem d_SG_set_23 : decode b_SG_set 23 = .ok (.isub, 1) := by decide +kernel
theorem d_SG_set_24 : decode b_SG_set 24 = .ok (.iconst 2, 1) := by decide +kernel
theorem d_SG_set_25 : decode b_SG_set 25 = .ok (.idiv, 1) := by decide +kernel
theorem d_SG_set_26 : decode b_SG_set 26 = .ok (.invokestatic 48, 3) := by decide +kernel
theorem d_SG_set_29 : decode b_SG_set 29 = .ok (.lstore_n 3, 1) := by decide +kernel
theorem d_SG_set_30 : decode b_SG_set 30 = .ok (.aload_n 0, 1) := by decide +kernel
theorem d_SG_set_31 : decode b_SG_set 31 = .ok (.getfield 12, 3) := by decide +kernel
theorem d_SG_set_34 : decode b_SG_set 34 = .ok (.iload_n 1, 1) := by decide +kernel
theorem d_SG_set_35 : decode b_SG_set 35 = .ok (.iload_n 2, 1) := by decide +kernel
theorem d_SG_set_36 : decode b_SG_set 36 = .ok (.iconst 2, 1) := by decide +kernel
theorem d_SG_set_37 : decode b_SG_set 37 = .ok (.irem, 1) := by decide +kernel
theorem d_SG_set_38 : decode b_SG_set 38 = .ok (.ifCond .ne 7, 3) := by decide +kernel
theorem d_SG_set_41 : decode b_SG_set 41 = .ok (.lload_n 3, 1) := by decide +kernel
theorem d_SG_set_42 : decode b_SG_set 42 = .ok (.goto 8, 3) := by decide +kernel
theorem d_SG_set_45 : decode b_SG_set 45 = .ok (.lload_n 3, 1) := by decide +kernel
theorem d_SG_set_46 : decode b_SG_set 46 = .ok (.ldc2_w 52, 3) := by decide +kernel
theorem d_SG_set_49 : decode b_SG_set 49 = .ok (.lxor, 1) := by decide +kernel
theorem d_SG_set_50 : decode b_SG_set 50 = .ok (.invokevirtual 54, 3) := by decide +kernel
theorem d_SG_set_53 : decode b_SG_set 53 = .ok (.return_, 1) := by decide +kernel
theorem d_SG_checkBelow_0 : decode b_SG_checkBelow 0 = .ok (.iload_n 0, 1) := by decide +kernel
theorem d_SG_checkBelow_1 : decode b_SG_checkBelow 1 = .ok (.ifCond .lt 8, 3) := by decide +kernel
theorem d_SG_checkBelow_4 : decode b_SG_checkBelow 4 = .ok (.iload_n 0, 1) := by decide +kernel
theorem d_SG_checkBelow_5 : decode b_SG_checkBelow 5 = .ok (.iload_n 1, 1) := by decide +kernel
theorem d_SG_checkBelow_6 : decode b_SG_checkBelow 6 = .ok (.if_icmp .lt 11, 3) := by decide +kernel
theorem d_SG_checkBelow_9 : decode b_SG_checkBelow 9 = .ok (.new 76, 3) := by decide +kernel
theorem d_SG_checkBelow_12 : decode b_SG_checkBelow 12 = .ok (.dup, 1) := by decide +kernel
theorem d_SG_checkBelow_13 : decode b_SG_checkBelow 13 = .ok (.invokespecial 78, 3) := by decide +kernel
theorem d_SG_checkBelow_16 : decode b_SG_checkBelow 16 = .ok (.athrow, 1) := by decide +kernel
theorem d_SG_checkBelow_17 : decode b_SG_checkBelow 17 = .ok (.return_, 1) := by decide +kernel
theorem d_TB_ofVariable_0 : decode b_TB_ofVariable 0 = .ok (.getstatic 9, 3) := by decide +kernel
theorem d_TB_ofVariable_3 : decode b_TB_ofVariable 3 = .ok (.iload_n 0, 1) := by decide +kernel
theorem d_TB_ofVariable_4 : decode b_TB_ofVariable 4 = .ok (.laload, 1) := by decide +kernel
theorem d_TB_ofVariable_5 : decode b_TB_ofVariable 5 = .ok (.lreturn, 1) := by decide +kernel
theorem d_RG_put_0 : decode b_RG_put 0 = .ok (.aload_n 0, 1) := by decide +kernel
theorem d_RG_put_1 : decode b_RG_put 1 = .ok (.getfield 9, 3) := by decide +kernel
theorem d_RG_put_4 : decode b_RG_put 4 = .ok (.iload_n 1, 1) := by decide +kernel
theorem d_RG_put_5 : decode b_RG_put 5 = .ok (.lload_n 2, 1) := by decide +kernel
theorem d_RG_put_6 : decode b_RG_put 6 = .ok (.lastore, 1) := by decide +kernel
theorem d_RG_put_7 : decode b_RG_put 7 = .ok (.aload_n 0, 1) := by decide +kernel
theorem d_RG_put_8 : decode b_RG_put 8 = .ok (.getfield 15, 3) := by decide +kernel
theorem d_RG_put_11 : decode b_RG_put 11 = .ok (.iload_n 1, 1) := by decide +kernel
theorem d_RG_put_12 : decode b_RG_put 12 = .ok (.iconst 1, 1) := by decide +kernel
theorem d_RG_put_13 : decode b_RG_put 13 = .ok (.bastore, 1) := by decide +kernel
theorem d_RG_put_14 : decode b_RG_put 14 = .ok (.return_, 1) := by decide +kernel
theorem d_LW_apply_0 : decode b_LW_apply 0 = .ok (.aload_n 0, 1) := by decide +kernel
theorem d_LW_apply_1 : decode b_LW_apply 1 = .ok (.iload_n 1, 1) := by decide +kernel
theorem d_LW_apply_2 : decode b_LW_apply 2 = .ok (.iload_n 2, 1) := by decide +kernel
theorem d_LW_apply_3 : decode b_LW_apply 3 = .ok (.iload_n 3, 1) := by decide +kernel
theorem d_LW_apply_4 : decode b_LW_apply 4 = .ok (.iload 4, 2) := by decide +kernel
theorem d_LW_apply_6 : decode b_LW_apply 6 = .ok (.invokevirtual 15, 3) := by decide +kernel
theorem d_LW_apply_9 : decode b_LW_apply 9 = .ok (.goto 11, 3) := by decide +kernel
theorem d_LW_apply_12 : decode b_LW_apply 12 = .ok (.astore 5, 2) := by decide +kernel
theorem d_LW_apply_14 : decode b_LW_apply 14 = .ok (.iconst 1, 1) := by decide +kernel
theorem d_LW_apply_15 : decode b_LW_apply 15 = .ok (.ireturn, 1) := by decide +kernel
theorem d_LW_apply_16 : decode b_LW_apply 16 = .ok (.astore 5, 2) := by decide +kernel
theorem d_LW_apply_18 : decode b_LW_apply 18 = .ok (.iconst 2, 1) := by decide +kernel
theorem d_LW_apply_19 : decode b_LW_apply 19 = .ok (.ireturn, 1) := by decide +kernel
theorem d_LW_apply_20 : decode b_LW_apply 20 = .ok (.iconst 0, 1) := by decide +kernel
theorem d_LW_apply_21 : decode b_LW_apply 21 = .ok (.ireturn, 1) := by decide +kernel
theorem d_SG_apply_0 : decode b_SG_apply 0 = .ok (.iload_n 1, 1) := by decide +kernel
theorem d_SG_apply_1 : decode b_SG_apply 1 = .ok (.bipush 8, 2) := by decide +kernel
theorem d_SG_apply_3 : decode b_SG_apply 3 = .ok (.invokestatic 42, 3) := by decide +kernel
theorem d_SG_apply_6 : decode b_SG_apply 6 = .ok (.iload_n 2, 1) := by decide +kernel
theorem d_SG_apply_7 : decode b_SG_apply 7 = .ok (.bipush 8, 2) := by decide +kernel
theorem d_SG_apply_9 : decode b_SG_apply 9 = .ok (.invokestatic 42, 3) := by decide +kernel
theorem d_SG_apply_12 : decode b_SG_apply 12 = .ok (.iload_n 3, 1) := by decide +kernel
theorem d_SG_apply_13 : decode b_SG_apply 13 = .ok (.bipush 8, 2) := by decide +kernel
theorem d_SG_apply_15 : decode b_SG_apply 15 = .ok (.invokestatic 42, 3) := by decide +kernel
theorem d_SG_apply_18 : decode b_SG_apply 18 = .ok (.iload 4, 2) := by decide +kernel
theorem d_SG_apply_20 : decode b_SG_apply 20 = .ok (.bipush 16, 2) := by decide +kernel
theorem d_SG_apply_22 : decode b_SG_apply 22 = .ok (.invokestatic 42, 3) := by decide +kernel
theorem d_SG_apply_25 : decode b_SG_apply 25 = .ok (.aload_n 0, 1) := by decide +kernel
theorem d_SG_apply_26 : decode b_SG_apply 26 = .ok (.getfield 12, 3) := by decide +kernel
theorem d_SG_apply_29 : decode b_SG_apply 29 = .ok (.iload_n 1, 1) := by decide +kernel
theorem d_SG_apply_30 : decode b_SG_apply 30 = .ok (.aload_n 0, 1) := by decide +kernel
theorem d_SG_apply_31 : decode b_SG_apply 31 = .ok (.iload_n 2, 1) := by decide +kernel
theorem d_SG_apply_32 : decode b_SG_apply 32 = .ok (.invokevirtual 58, 3) := by decide +kernel
theorem d_SG_apply_35 : decode b_SG_apply 35 = .ok (.aload_n 0, 1) := by decide +kernel
theorem d_SG_apply_36 : decode b_SG_apply 36 = .ok (.iload_n 3, 1) := by decide +kernel
theorem d_SG_apply_37 : decode b_SG_apply 37 = .ok (.invokevirtual 58, 3) := by decide +kernel
theorem d_SG_apply_40 : decode b_SG_apply 40 = .ok (.iload 4, 2) := by decide +kernel
theorem d_SG_apply_42 : decode b_SG_apply 42 = .ok (.invokestatic 61, 3) := by decide +kernel
theorem d_SG_apply_45 : decode b_SG_apply 45 = .ok (.invokevirtual 54, 3) := by decide +kernel
theorem d_SG_apply_48 : decode b_SG_apply 48 = .ok (.return_, 1) := by decide +kernel
theorem d_SG_look_0 : decode b_SG_look 0 = .ok (.aload_n 0, 1) := by decide +kernel
theorem d_SG_look_1 : decode b_SG_look 1 = .ok (.getfield 12, 3) := by decide +kernel
theorem d_SG_look_4 : decode b_SG_look 4 = .ok (.iload_n 1, 1) := by decide +kernel
theorem d_SG_look_5 : decode b_SG_look 5 = .ok (.invokevirtual 89, 3) := by decide +kernel
theorem d_SG_look_8 : decode b_SG_look 8 = .ok (.ifCond .ne 11, 3) := by decide +kernel
theorem d_SG_look_11 : decode b_SG_look 11 = .ok (.new 138, 3) := by decide +kernel
theorem d_SG_look_14 : decode b_SG_look 14 = .ok (.dup, 1) := by decide +kernel
theorem d_SG_look_15 : decode b_SG_look 15 = .ok (.invokespecial 140, 3) := by decide +kernel
theorem d_SG_look_18 : decode b_SG_look 18 = .ok (.athrow, 1) := by decide +kernel
theorem d_SG_look_19 : decode b_SG_look 19 = .ok (.aload_n 0, 1) := by decide +kernel
theorem d_SG_look_20 : decode b_SG_look 20 = .ok (.getfield 12, 3) := by decide +kernel
