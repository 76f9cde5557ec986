theorem d_V_open_44 : decode prog_1_method_6_code 44 = .ok (.if_icmp .ne 13, 3) := by decide +kernel
theorem d_V_open_47 : decode prog_1_method_6_code 47 = .ok (.new 128, 3) := by decide +kernel
theorem d_V_open_50 : decode prog_1_method_6_code 50 = .ok (.dup, 1) := by decide +kernel
theorem d_V_open_51 : decode prog_1_method_6_code 51 = .ok (.ldc 159, 2) := by decide +kernel
theorem d_V_open_53 : decode prog_1_method_6_code 53 = .ok (.invokespecial 132, 3) := by decide +kernel
theorem d_V_open_56 : decode prog_1_method_6_code 56 = .ok (.athrow, 1) := by decide +kernel
theorem d_V_open_57 : decode prog_1_method_6_code 57 = .ok (.aload_n 0, 1) := by decide +kernel
theorem d_V_open_58 : decode prog_1_method_6_code 58 = .ok (.getfield 12, 3) := by decide +kernel
theorem d_V_open_61 : decode prog_1_method_6_code 61 = .ok (.invokevirtual 161, 3) := by decide +kernel
theorem d_V_open_64 : decode prog_1_method_6_code 64 = .ok (.istore_n 2, 1) := by decide +kernel
theorem d_V_open_65 : decode prog_1_method_6_code 65 = .ok (.iload_n 2, 1) := by decide +kernel
theorem d_V_open_66 : decode prog_1_method_6_code 66 = .ok (.iconst (-1), 1) := by decide +kernel
theorem d_V_open_67 : decode prog_1_method_6_code 67 = .ok (.if_icmp .ne 13, 3) := by decide +kernel
theorem d_V_open_70 : decode prog_1_method_6_code 70 = .ok (.new 106, 3) := by decide +kernel
theorem d_V_open_73 : decode prog_1_method_6_code 73 = .ok (.dup, 1) := by decide +kernel
theorem d_V_open_74 : decode prog_1_method_6_code 74 = .ok (.ldc 164, 2) := by decide +kernel
theorem d_V_open_76 : decode prog_1_method_6_code 76 = .ok (.invokespecial 110, 3) := by decide +kernel
theorem d_V_open_79 : decode prog_1_method_6_code 79 = .ok (.athrow, 1) := by decide +kernel
theorem d_V_open_80 : decode prog_1_method_6_code 80 = .ok (.aload_n 0, 1) := by decide +kernel
theorem d_V_open_81 : decode prog_1_method_6_code 81 = .ok (.getfield 12, 3) := by decide +kernel
theorem d_V_open_84 : decode prog_1_method_6_code 84 = .ok (.iload_n 2, 1) := by decide +kernel
theorem d_V_open_85 : decode prog_1_method_6_code 85 = .ok (.aload_n 0, 1) := by decide +kernel
theorem d_V_open_86 : decode prog_1_method_6_code 86 = .ok (.getfield 39, 3) := by decide +kernel
theorem d_V_open_89 : decode prog_1_method_6_code 89 = .ok (.iload_n 1, 1) := by decide +kernel
theorem d_V_open_90 : decode prog_1_method_6_code 90 = .ok (.invokevirtual 166, 3) := by decide +kernel
theorem d_V_open_93 : decode prog_1_method_6_code 93 = .ok (.invokevirtual 169, 3) := by decide +kernel
theorem d_V_open_96 : decode prog_1_method_6_code 96 = .ok (.iload_n 2, 1) := by decide +kernel
theorem d_V_open_97 : decode prog_1_method_6_code 97 = .ok (.ireturn, 1) := by decide +kernel
theorem d_Ses_isOpen_0 : decode prog_6_method_6_code 0 = .ok (.iload_n 1, 1) := by decide +kernel
theorem d_Ses_isOpen_1 : decode prog_6_method_6_code 1 = .ok (.ifCond .lt 22, 3) := by decide +kernel
theorem d_Ses_isOpen_4 : decode prog_6_method_6_code 4 = .ok (.iload_n 1, 1) := by decide +kernel
theorem d_Ses_isOpen_5 : decode prog_6_method_6_code 5 = .ok (.iconst 4, 1) := by decide +kernel
theorem d_Ses_isOpen_6 : decode prog_6_method_6_code 6 = .ok (.if_icmp .ge 17, 3) := by decide +kernel
theorem d_Ses_isOpen_9 : decode prog_6_method_6_code 9 = .ok (.aload_n 0, 1) := by decide +kernel
theorem d_Ses_isOpen_10 : decode prog_6_method_6_code 10 = .ok (.getfield 15, 3) := by decide +kernel
theorem d_Ses_isOpen_13 : decode prog_6_method_6_code 13 = .ok (.iload_n 1, 1) := by decide +kernel
theorem d_Ses_isOpen_14 : decode prog_6_method_6_code 14 = .ok (.iaload, 1) := by decide +kernel
theorem d_Ses_isOpen_15 : decode prog_6_method_6_code 15 = .ok (.iconst (-1), 1) := by decide +kernel
theorem d_Ses_isOpen_16 : decode prog_6_method_6_code 16 = .ok (.if_icmp .eq 7, 3) := by decide +kernel
theorem d_Ses_isOpen_19 : decode prog_6_method_6_code 19 = .ok (.iconst 1, 1) := by decide +kernel
theorem d_Ses_isOpen_20 : decode prog_6_method_6_code 20 = .ok (.goto 4, 3) := by decide +kernel
theorem d_Ses_isOpen_23 : decode prog_6_method_6_code 23 = .ok (.iconst 0, 1) := by decide +kernel
theorem d_Ses_isOpen_24 : decode prog_6_method_6_code 24 = .ok (.ireturn, 1) := by decide +kernel
theorem d_Ses_drop_0 : decode prog_6_method_10_code 0 = .ok (.iload_n 1, 1) := by decide +kernel
theorem d_Ses_drop_1 : decode prog_6_method_10_code 1 = .ok (.ifCond .lt 15, 3) := by decide +kernel
theorem d_Ses_drop_4 : decode prog_6_method_10_code 4 = .ok (.iload_n 1, 1) := by decide +kernel
theorem d_Ses_drop_5 : decode prog_6_method_10_code 5 = .ok (.iconst 4, 1) := by decide +kernel
theorem d_Ses_drop_6 : decode prog_6_method_10_code 6 = .ok (.if_icmp .ge 10, 3) := by decide +kernel
theorem d_Ses_drop_9 : decode prog_6_method_10_code 9 = .ok (.aload_n 0, 1) := by decide +kernel
theorem d_Ses_drop_10 : decode prog_6_method_10_code 10 = .ok (.getfield 15, 3) := by decide +kernel
theorem d_Ses_drop_13 : decode prog_6_method_10_code 13 = .ok (.iload_n 1, 1) := by decide +kernel
theorem d_Ses_drop_14 : decode prog_6_method_10_code 14 = .ok (.iconst (-1), 1) := by decide +kernel
theorem d_Ses_drop_15 : decode prog_6_method_10_code 15 = .ok (.iastore, 1) := by decide +kernel
theorem d_Ses_drop_16 : decode prog_6_method_10_code 16 = .ok (.return_, 1) := by decide +kernel
theorem d_V_close_0 : decode prog_1_method_7_code 0 = .ok (.aload_n 0, 1) := by decide +kernel
theorem d_V_close_1 : decode prog_1_method_7_code 1 = .ok (.getfield 12, 3) := by decide +kernel
theorem d_V_close_4 : decode prog_1_method_7_code 4 = .ok (.iload_n 1, 1) := by decide +kernel
theorem d_V_close_5 : decode prog_1_method_7_code 5 = .ok (.invokevirtual 173, 3) := by decide +kernel
theorem d_V_close_8 : decode prog_1_method_7_code 8 = .ok (.ifCond .ne 5, 3) := by decide +kernel
theorem d_V_close_11 : decode prog_1_method_7_code 11 = .ok (.iconst 0, 1) := by decide +kernel
theorem d_V_close_12 : decode prog_1_method_7_code 12 = .ok (.ireturn, 1) := by decide +kernel
theorem d_V_close_13 : decode prog_1_method_7_code 13 = .ok (.aload_n 0, 1) := by decide +kernel
theorem d_V_close_14 : decode prog_1_method_7_code 14 = .ok (.getfield 12, 3) := by decide +kernel
theorem d_V_close_17 : decode prog_1_method_7_code 17 = .ok (.iload_n 1, 1) := by decide +kernel
theorem d_V_close_18 : decode prog_1_method_7_code 18 = .ok (.invokevirtual 176, 3) := by decide +kernel
theorem d_V_close_21 : decode prog_1_method_7_code 21 = .ok (.iconst 1, 1) := by decide +kernel
theorem d_V_close_22 : decode prog_1_method_7_code 22 = .ok (.ireturn, 1) := by decide +kernel
theorem d_Ses_entryOf_0 : decode prog_6_method_12_code 0 = .ok (.iload_n 1, 1) := by decide +kernel
theorem d_Ses_entryOf_1 : decode prog_6_method_12_code 1 = .ok (.ifCond .lt 17, 3) := by decide +kernel
theorem d_Ses_entryOf_4 : decode prog_6_method_12_code 4 = .ok (.iload_n 1, 1) := by decide +kernel
theorem d_Ses_entryOf_5 : decode prog_6_method_12_code 5 = .ok (.iconst 4, 1) := by decide +kernel
theorem d_Ses_entryOf_6 : decode prog_6_method_12_code 6 = .ok (.if_icmp .ge 12, 3) := by decide +kernel
theorem d_Ses_entryOf_9 : decode prog_6_method_12_code 9 = .ok (.aload_n 0, 1) := by decide +kernel
theorem d_Ses_entryOf_10 : decode prog_6_method_12_code 10 = .ok (.getfield 15, 3) := by decide +kernel
theorem d_Ses_entryOf_13 : decode prog_6_method_12_code 13 = .ok (.iload_n 1, 1) := by decide +kernel
theorem d_Ses_entryOf_14 : decode prog_6_method_12_code 14 = .ok (.iaload, 1) := by decide +kernel
theorem d_Ses_entryOf_15 : decode prog_6_method_12_code 15 = .ok (.goto 4, 3) := by decide +kernel
theorem d_Ses_entryOf_18 : decode prog_6_method_12_code 18 = .ok (.iconst (-1), 1) := by decide +kernel
theorem d_Ses_entryOf_19 : decode prog_6_method_12_code 19 = .ok (.ireturn, 1) := by decide +kernel
theorem d_V_sizeOfFile_0 : decode prog_1_method_22_code 0 = .ok (.aload_n 0, 1) := by decide +kernel
theorem d_V_sizeOfFile_1 : decode prog_1_method_22_code 1 = .ok (.getfield 21, 3) := by decide +kernel
theorem d_V_sizeOfFile_4 : decode prog_1_method_22_code 4 = .ok (.aload_n 0, 1) := by decide +kernel
theorem d_V_sizeOfFile_5 : decode prog_1_method_22_code 5 = .ok (.getfield 12, 3) := by decide +kernel
theorem d_V_sizeOfFile_8 : decode prog_1_method_22_code 8 = .ok (.iload_n 1, 1) := by decide +kernel
theorem d_V_sizeOfFile_9 : decode prog_1_method_22_code 9 = .ok (.invokevirtual 190, 3) := by decide +kernel
theorem d_V_sizeOfFile_12 : decode prog_1_method_22_code 12 = .ok (.bipush 10, 2) := by decide +kernel
theorem d_V_sizeOfFile_14 : decode prog_1_method_22_code 14 = .ok (.iadd, 1) := by decide +kernel
theorem d_V_sizeOfFile_15 : decode prog_1_method_22_code 15 = .ok (.invokevirtual 193, 3) := by decide +kernel
theorem d_V_sizeOfFile_18 : decode prog_1_method_22_code 18 = .ok (.ireturn, 1) := by decide +kernel
theorem d_Ses_moveTo_0 : decode prog_6_method_11_code 0 = .ok (.iload_n 1, 1) := by decide +kernel
theorem d_Ses_moveTo_1 : decode prog_6_method_11_code 1 = .ok (.ifCond .lt 15, 3) := by decide +kernel
theorem d_Ses_moveTo_4 : decode prog_6_method_11_code 4 = .ok (.iload_n 1, 1) := by decide +kernel
theorem d_Ses_moveTo_5 : decode prog_6_method_11_code 5 = .ok (.iconst 4, 1) := by decide +kernel
theorem d_Ses_moveTo_6 : decode prog_6_method_11_code 6 = .ok (.if_icmp .ge 10, 3) := by decide +kernel
theorem d_Ses_moveTo_9 : decode prog_6_method_11_code 9 = .ok (.aload_n 0, 1) := by decide +kernel
theorem d_Ses_moveTo_10 : decode prog_6_method_11_code 10 = .ok (.getfield 19, 3) := by decide +kernel
theorem d_Ses_moveTo_13 : decode prog_6_method_11_code 13 = .ok (.iload_n 1, 1) := by decide +kernel
theorem d_Ses_moveTo_14 : decode prog_6_method_11_code 14 = .ok (.iload_n 2, 1) := by decide +kernel
theorem d_Ses_moveTo_15 : decode prog_6_method_11_code 15 = .ok (.iastore, 1) := by decide +kernel
theorem d_Ses_moveTo_16 : decode prog_6_method_11_code 16 = .ok (.return_, 1) := by decide +kernel
theorem d_V_seek_0 : decode prog_1_method_8_code 0 = .ok (.aload_n 0, 1) := by decide +kernel
theorem d_V_seek_1 : decode prog_1_method_8_code 1 = .ok (.getfield 12, 3) := by decide +kernel
theorem d_V_seek_4 : decode prog_1_method_8_code 4 = .ok (.iload_n 1, 1) := by decide +kernel
theorem d_V_seek_5 : decode prog_1_method_8_code 5 = .ok (.invokevirtual 173, 3) := by decide +kernel
theorem d_V_seek_8 : decode prog_1_method_8_code 8 = .ok (.ifCond .eq 16, 3) := by decide +kernel
theorem d_V_seek_11 : decode prog_1_method_8_code 11 = .ok (.iload_n 2, 1) := by decide +kernel
theorem d_V_seek_12 : decode prog_1_method_8_code 12 = .ok (.ifCond .lt 12, 3) := by decide +kernel
theorem d_V_seek_15 : decode prog_1_method_8_code 15 = .ok (.iload_n 2, 1) := by decide +kernel
theorem d_V_seek_16 : decode prog_1_method_8_code 16 = .ok (.aload_n 0, 1) := by decide +kernel
theorem d_V_seek_17 : decode prog_1_method_8_code 17 = .ok (.iload_n 1, 1) := by decide +kernel
theorem d_V_seek_18 : decode prog_1_method_8_code 18 = .ok (.invokevirtual 179, 3) := by decide +kernel
theorem d_V_seek_21 : decode prog_1_method_8_code 21 = .ok (.if_icmp .le 5, 3) := by decide +kernel
theorem d_V_seek_24 : decode prog_1_method_8_code 24 = .ok (.iconst 0, 1) := by decide +kernel
theorem d_V_seek_25 : decode prog_1_method_8_code 25 = .ok (.ireturn, 1) := by decide +kernel
theorem d_V_seek_26 : decode prog_1_method_8_code 26 = .ok (.aload_n 0, 1) := by decide +kernel
theorem d_V_seek_27 : decode prog_1_method_8_code 27 = .ok (.getfield 12, 3) := by decide +kernel
theorem d_V_seek_30 : decode prog_1_method_8_code 30 = .ok (.iload_n 1, 1) := by decide +kernel
theorem d_V_seek_31 : decode prog_1_method_8_code 31 = .ok (.iload_n 2, 1) := by decide +kernel
theorem d_V_seek_32 : decode prog_1_method_8_code 32 = .ok (.invokevirtual 182, 3) := by decide +kernel
theorem d_V_seek_35 : decode prog_1_method_8_code 35 = .ok (.iconst 1, 1) := by decide +kernel
theorem d_V_seek_36 : decode prog_1_method_8_code 36 = .ok (.ireturn, 1) := by decide +kernel
theorem d_Ses_positionOf_0 : decode prog_6_method_13_code 0 = .ok (.iload_n 1, 1) := by decide +kernel
theorem d_Ses_positionOf_1 : decode prog_6_method_13_code 1 = .ok (.ifCond .lt 17, 3) := by decide +kernel
theorem d_Ses_positionOf_4 : decode prog_6_method_13_code 4 = .ok (.iload_n 1, 1) := by decide +kernel
theorem d_Ses_positionOf_5 : decode prog_6_method_13_code 5 = .ok (.iconst 4, 1) := by decide +kernel
theorem d_Ses_positionOf_6 : decode prog_6_method_13_code 6 = .ok (.if_icmp .ge 12, 3) := by decide +kernel
theorem d_Ses_positionOf_9 : decode prog_6_method_13_code 9 = .ok (.aload_n 0, 1) := by decide +kernel
theorem d_Ses_positionOf_10 : decode prog_6_method_13_code 10 = .ok (.getfield 19, 3) := by decide +kernel
theorem d_Ses_positionOf_13 : decode prog_6_method_13_code 13 = .ok (.iload_n 1, 1) := by decide +kernel
theorem d_Ses_positionOf_14 : decode prog_6_method_13_code 14 = .ok (.iaload, 1) := by decide +kernel
theorem d_Ses_positionOf_15 : decode prog_6_method_13_code 15 = .ok (.goto 4, 3) := by decide +kernel
theorem d_Ses_positionOf_18 : decode prog_6_method_13_code 18 = .ok (.iconst 0, 1) := by decide +kernel
theorem d_Ses_positionOf_19 : decode prog_6_method_13_code 19 = .ok (.ireturn, 1) := by decide +kernel
theorem d_Table_clusterAt_0 : decode prog_7_method_12_code 0 = .ok (.iload_n 1, 1) := by decide +kernel
theorem d_Table_clusterAt_1 : decode prog_7_method_12_code 1 = .ok (.istore_n 3, 1) := by decide +kernel
theorem d_Table_clusterAt_2 : decode prog_7_method_12_code 2 = .ok (.iconst 0, 1) := by decide +kernel
theorem d_Table_clusterAt_3 : decode prog_7_method_12_code 3 = .ok (.istore 4, 2) := by decide +kernel
theorem d_Table_clusterAt_5 : decode prog_7_method_12_code 5 = .ok (.iload 4, 2) := by decide +kernel
theorem d_Table_clusterAt_7 : decode prog_7_method_12_code 7 = .ok (.iload_n 2, 1) := by decide +kernel
theorem d_Table_clusterAt_8 : decode prog_7_method_12_code 8 = .ok (.if_icmp .ge 29, 3) := by decide +kernel
theorem d_Table_clusterAt_11 : decode prog_7_method_12_code 11 = .ok (.iload 4, 2) := by decide +kernel
theorem d_Table_clusterAt_13 : decode prog_7_method_12_code 13 = .ok (.bipush 64, 2) := by decide +kernel
theorem d_Table_clusterAt_15 : decode prog_7_method_12_code 15 = .ok (.if_icmp .ge 22, 3) := by decide +kernel
theorem d_Table_clusterAt_18 : decode prog_7_method_12_code 18 = .ok (.iload_n 3, 1) := by decide +kernel
theorem d_Table_clusterAt_19 : decode prog_7_method_12_code 19 = .ok (.invokestatic 47, 3) := by decide +kernel
theorem d_Table_clusterAt_22 : decode prog_7_method_12_code 22 = .ok (.ifCond .eq 15, 3) := by decide +kernel
theorem d_Table_clusterAt_25 : decode prog_7_method_12_code 25 = .ok (.aload_n 0, 1) := by decide +kernel
theorem d_Table_clusterAt_26 : decode prog_7_method_12_code 26 = .ok (.iload_n 3, 1) := by decide +kernel
theorem d_Table_clusterAt_27 : decode prog_7_method_12_code 27 = .ok (.invokevirtual 25, 3) := by decide +kernel
theorem d_Table_clusterAt_30 : decode prog_7_method_12_code 30 = .ok (.istore_n 3, 1) := by decide +kernel
theorem d_Table_clusterAt_31 : decode prog_7_method_12_code 31 = .ok (.iinc 4 1, 3) := by decide +kernel
theorem d_Table_clusterAt_34 : decode prog_7_method_12_code 34 = .ok (.goto (-29), 3) := by decide +kernel
theorem d_Table_clusterAt_37 : decode prog_7_method_12_code 37 = .ok (.iload_n 3, 1) := by decide +kernel
theorem d_Table_clusterAt_38 : decode prog_7_method_12_code 38 = .ok (.invokestatic 47, 3) := by decide +kernel
theorem d_Table_clusterAt_41 : decode prog_7_method_12_code 41 = .ok (.ifCond .eq 7, 3) := by decide +kernel
theorem d_Table_clusterAt_44 : decode prog_7_method_12_code 44 = .ok (.iload_n 3, 1) := by decide +kernel
theorem d_Table_clusterAt_45 : decode prog_7_method_12_code 45 = .ok (.goto 4, 3) := by decide +kernel
theorem d_Table_clusterAt_48 : decode prog_7_method_12_code 48 = .ok (.iconst 0, 1) := by decide +kernel
theorem d_Table_clusterAt_49 : decode prog_7_method_12_code 49 = .ok (.ireturn, 1) := by decide +kernel
theorem d_V_addressInChain_0 : decode prog_1_method_23_code 0 = .ok (.aload_n 0, 1) := by decide +kernel
theorem d_V_addressInChain_1 : decode prog_1_method_23_code 1 = .ok (.getfield 30, 3) := by decide +kernel
theorem d_V_addressInChain_4 : decode prog_1_method_23_code 4 = .ok (.iload_n 1, 1) := by decide +kernel
theorem d_V_addressInChain_5 : decode prog_1_method_23_code 5 = .ok (.iload_n 2, 1) := by decide +kernel
theorem d_V_addressInChain_6 : decode prog_1_method_23_code 6 = .ok (.bipush 32, 2) := by decide +kernel
theorem d_V_addressInChain_8 : decode prog_1_method_23_code 8 = .ok (.idiv, 1) := by decide +kernel
theorem d_V_addressInChain_9 : decode prog_1_method_23_code 9 = .ok (.invokevirtual 337, 3) := by decide +kernel
theorem d_V_addressInChain_12 : decode prog_1_method_23_code 12 = .ok (.istore_n 3, 1) := by decide +kernel
theorem d_V_addressInChain_13 : decode prog_1_method_23_code 13 = .ok (.iload_n 3, 1) := by decide +kernel
theorem d_V_addressInChain_14 : decode prog_1_method_23_code 14 = .ok (.invokestatic 340, 3) := by decide +kernel
theorem d_V_addressInChain_17 : decode prog_1_method_23_code 17 = .ok (.bipush 32, 2) := by decide +kernel
theorem d_V_addressInChain_19 : decode prog_1_method_23_code 19 = .ok (.imul, 1) := by decide +kernel
theorem d_V_addressInChain_20 : decode prog_1_method_23_code 20 = .ok (.iload_n 2, 1) := by decide +kernel
theorem d_V_addressInChain_21 : decode prog_1_method_23_code 21 = .ok (.bipush 32, 2) := by decide +kernel
theorem d_V_addressInChain_23 : decode prog_1_method_23_code 23 = .ok (.irem, 1) := by decide +kernel
theorem d_V_addressInChain_24 : decode prog_1_method_23_code 24 = .ok (.iadd, 1) := by decide +kernel
theorem d_V_addressInChain_25 : decode prog_1_method_23_code 25 = .ok (.ireturn, 1) := by decide +kernel
theorem d_V_read_0 : decode prog_1_method_9_code 0 = .ok (.aload_n 0, 1) := by decide +kernel
theorem d_V_read_1 : decode prog_1_method_9_code 1 = .ok (.invokevirtual 70, 3) := by decide +kernel
theorem d_V_read_4 : decode prog_1_method_9_code 4 = .ok (.aload_n 0, 1) := by decide +kernel
theorem d_V_read_5 : decode prog_1_method_9_code 5 = .ok (.getfield 12, 3) := by decide +kernel
theorem d_V_read_8 : decode prog_1_method_9_code 8 = .ok (.iload_n 1, 1) := by decide +kernel
theorem d_V_read_9 : decode prog_1_method_9_code 9 = .ok (.invokevirtual 173, 3) := by decide +kernel
theorem d_V_read_12 : decode prog_1_method_9_code 12 = .ok (.ifCond .eq 14, 3) := by decide +kernel
theorem d_V_read_15 : decode prog_1_method_9_code 15 = .ok (.iload_n 2, 1) := by decide +kernel
theorem d_V_read_16 : decode prog_1_method_9_code 16 = .ok (.iconst 1, 1) := by decide +kernel
theorem d_V_read_17 : decode prog_1_method_9_code 17 = .ok (.if_icmp .lt 9, 3) := by decide +kernel
theorem d_V_read_20 : decode prog_1_method_9_code 20 = .ok (.iload_n 2, 1) := by decide +kernel
theorem d_V_read_21 : decode prog_1_method_9_code 21 = .ok (.bipush 7, 2) := by decide +kernel
theorem d_V_read_23 : decode prog_1_method_9_code 23 = .ok (.if_icmp .le 13, 3) := by decide +kernel
theorem d_V_read_26 : decode prog_1_method_9_code 26 = .ok (.new 80, 3) := by decide +kernel
theorem d_V_read_29 : decode prog_1_method_9_code 29 = .ok (.dup, 1) := by decide +kernel
theorem d_V_read_30 : decode prog_1_method_9_code 30 = .ok (.ldc 185, 2) := by decide +kernel
theorem d_V_read_32 : decode prog_1_method_9_code 32 = .ok (.invokespecial 84, 3) := by decide +kernel
theorem d_V_read_35 : decode prog_1_method_9_code 35 = .ok (.athrow, 1) := by decide +kernel
theorem d_V_read_36 : decode prog_1_method_9_code 36 = .ok (.aload_n 0, 1) := by decide +kernel
theorem d_V_read_37 : decode prog_1_method_9_code 37 = .ok (.getfield 12, 3) := by decide +kernel
theorem d_V_read_40 : decode prog_1_method_9_code 40 = .ok (.iload_n 1, 1) := by decide +kernel
theorem d_V_read_41 : decode prog_1_method_9_code 41 = .ok (.invokevirtual 187, 3) := by decide +kernel
theorem d_V_read_44 : decode prog_1_method_9_code 44 = .ok (.istore_n 3, 1) := by decide +kernel
theorem d_V_read_45 : decode prog_1_method_9_code 45 = .ok (.aload_n 0, 1) := by decide +kernel
theorem d_V_read_46 : decode prog_1_method_9_code 46 = .ok (.getfield 21, 3) := by decide +kernel
theorem d_V_read_49 : decode prog_1_method_9_code 49 = .ok (.aload_n 0, 1) := by decide +kernel
theorem d_V_read_50 : decode prog_1_method_9_code 50 = .ok (.getfield 12, 3) := by decide +kernel
theorem d_V_read_53 : decode prog_1_method_9_code 53 = .ok (.iload_n 1, 1) := by decide +kernel
theorem d_V_read_54 : decode prog_1_method_9_code 54 = .ok (.invokevirtual 190, 3) := by decide +kernel
theorem d_V_read_57 : decode prog_1_method_9_code 57 = .ok (.bipush 8, 2) := by decide +kernel
theorem d_V_read_59 : decode prog_1_method_9_code 59 = .ok (.iadd, 1) := by decide +kernel
theorem d_V_read_60 : decode prog_1_method_9_code 60 = .ok (.invokevirtual 193, 3) := by decide +kernel
theorem d_V_read_63 : decode prog_1_method_9_code 63 = .ok (.istore 4, 2) := by decide +kernel
theorem d_V_read_65 : decode prog_1_method_9_code 65 = .ok (.iload_n 2, 1) := by decide +kernel
theorem d_V_read_66 : decode prog_1_method_9_code 66 = .ok (.aload_n 0, 1) := by decide +kernel
theorem d_V_read_67 : decode prog_1_method_9_code 67 = .ok (.iload_n 1, 1) := by decide +kernel
theorem d_V_read_68 : decode prog_1_method_9_code 68 = .ok (.invokevirtual 179, 3) := by decide +kernel
theorem d_V_read_71 : decode prog_1_method_9_code 71 = .ok (.iload_n 3, 1) := by decide +kernel
theorem d_V_read_72 : decode prog_1_method_9_code 72 = .ok (.isub, 1) := by decide +kernel
theorem d_V_read_73 : decode prog_1_method_9_code 73 = .ok (.invokestatic 196, 3) := by decide +kernel
theorem d_V_read_76 : decode prog_1_method_9_code 76 = .ok (.istore 5, 2) := by decide +kernel
theorem d_V_read_78 : decode prog_1_method_9_code 78 = .ok (.lconst 0, 1) := by decide +kernel
theorem d_V_read_79 : decode prog_1_method_9_code 79 = .ok (.lstore 6, 2) := by decide +kernel
theorem d_V_read_81 : decode prog_1_method_9_code 81 = .ok (.iconst 0, 1) := by decide +kernel
theorem d_V_read_82 : decode prog_1_method_9_code 82 = .ok (.istore 8, 2) := by decide +kernel
theorem d_V_read_84 : decode prog_1_method_9_code 84 = .ok (.iload 8, 2) := by decide +kernel
theorem d_V_read_86 : decode prog_1_method_9_code 86 = .ok (.iload 5, 2) := by decide +kernel
theorem d_V_read_88 : decode prog_1_method_9_code 88 = .ok (.if_icmp .ge 35, 3) := by decide +kernel
theorem d_V_read_91 : decode prog_1_method_9_code 91 = .ok (.lload 6, 2) := by decide +kernel
theorem d_V_read_93 : decode prog_1_method_9_code 93 = .ok (.bipush 8, 2) := by decide +kernel
theorem d_V_read_95 : decode prog_1_method_9_code 95 = .ok (.lshl, 1) := by decide +kernel
theorem d_V_read_96 : decode prog_1_method_9_code 96 = .ok (.aload_n 0, 1) := by decide +kernel
theorem d_V_read_97 : decode prog_1_method_9_code 97 = .ok (.getfield 21, 3) := by decide +kernel
theorem d_V_read_100 : decode prog_1_method_9_code 100 = .ok (.aload_n 0, 1) := by decide +kernel
theorem d_V_read_101 : decode prog_1_method_9_code 101 = .ok (.iload 4, 2) := by decide +kernel
theorem d_V_read_103 : decode prog_1_method_9_code 103 = .ok (.iload_n 3, 1) := by decide +kernel
theorem d_V_read_104 : decode prog_1_method_9_code 104 = .ok (.iload 8, 2) := by decide +kernel
theorem d_V_read_106 : decode prog_1_method_9_code 106 = .ok (.iadd, 1) := by decide +kernel
theorem d_V_read_107 : decode prog_1_method_9_code 107 = .ok (.invokevirtual 202, 3) := by decide +kernel
theorem d_V_read_110 : decode prog_1_method_9_code 110 = .ok (.invokevirtual 205, 3) := by decide +kernel
theorem d_V_read_113 : decode prog_1_method_9_code 113 = .ok (.i2l, 1) := by decide +kernel
theorem d_V_read_114 : decode prog_1_method_9_code 114 = .ok (.lor, 1) := by decide +kernel
theorem d_V_read_115 : decode prog_1_method_9_code 115 = .ok (.lstore 6, 2) := by decide +kernel
theorem d_V_read_117 : decode prog_1_method_9_code 117 = .ok (.iinc 8 1, 3) := by decide +kernel
theorem d_V_read_120 : decode prog_1_method_9_code 120 = .ok (.goto (-36), 3) := by decide +kernel
theorem d_V_read_123 : decode prog_1_method_9_code 123 = .ok (.aload_n 0, 1) := by decide +kernel
theorem d_V_read_124 : decode prog_1_method_9_code 124 = .ok (.getfield 12, 3) := by decide +kernel
theorem d_V_read_127 : decode prog_1_method_9_code 127 = .ok (.iload_n 1, 1) := by decide +kernel
theorem d_V_read_128 : decode prog_1_method_9_code 128 = .ok (.iload_n 3, 1) := by decide +kernel
theorem d_V_read_129 : decode prog_1_method_9_code 129 = .ok (.iload 5, 2) := by decide +kernel
theorem d_V_read_131 : decode prog_1_method_9_code 131 = .ok (.iadd, 1) := by decide +kernel
theorem d_V_read_132 : decode prog_1_method_9_code 132 = .ok (.invokevirtual 182, 3) := by decide +kernel
theorem d_V_read_135 : decode prog_1_method_9_code 135 = .ok (.lload 6, 2) := by decide +kernel
theorem d_V_read_137 : decode prog_1_method_9_code 137 = .ok (.iload 5, 2) := by decide +kernel
theorem d_V_read_139 : decode prog_1_method_9_code 139 = .ok (.i2l, 1) := by decide +kernel
theorem d_V_read_140 : decode prog_1_method_9_code 140 = .ok (.bipush 56, 2) := by decide +kernel
theorem d_V_read_142 : decode prog_1_method_9_code 142 = .ok (.lshl, 1) := by decide +kernel
theorem d_V_read_143 : decode prog_1_method_9_code 143 = .ok (.lor, 1) := by decide +kernel
theorem d_V_read_144 : decode prog_1_method_9_code 144 = .ok (.lreturn, 1) := by decide +kernel
theorem d_Folder_indexOfNamed_0 : decode prog_3_method_13_code 0 = .ok (.iconst 0, 1) := by decide +kernel
theorem d_Folder_indexOfNamed_1 : decode prog_3_method_13_code 1 = .ok (.istore_n 2, 1) := by decide +kernel
theorem d_Folder_indexOfNamed_2 : decode prog_3_method_13_code 2 = .ok (.iconst 0, 1) := by decide +kernel
theorem d_Folder_indexOfNamed_3 : decode prog_3_method_13_code 3 = .ok (.istore_n 3, 1) := by decide +kernel
theorem d_Folder_indexOfNamed_4 : decode prog_3_method_13_code 4 = .ok (.iload_n 3, 1) := by decide +kernel
theorem d_Folder_indexOfNamed_5 : decode prog_3_method_13_code 5 = .ok (.aload_n 0, 1) := by decide +kernel
theorem d_Folder_indexOfNamed_6 : decode prog_3_method_13_code 6 = .ok (.getfield 23, 3) := by decide +kernel
theorem d_Folder_indexOfNamed_9 : decode prog_3_method_13_code 9 = .ok (.if_icmp .ge 27, 3) := by decide +kernel
theorem d_Folder_indexOfNamed_12 : decode prog_3_method_13_code 12 = .ok (.aload_n 0, 1) := by decide +kernel
theorem d_Folder_indexOfNamed_13 : decode prog_3_method_13_code 13 = .ok (.iload_n 3, 1) := by decide +kernel
theorem d_Folder_indexOfNamed_14 : decode prog_3_method_13_code 14 = .ok (.invokevirtual 61, 3) := by decide +kernel
theorem d_Folder_indexOfNamed_17 : decode prog_3_method_13_code 17 = .ok (.ifCond .eq 13, 3) := by decide +kernel
theorem d_Folder_indexOfNamed_20 : decode prog_3_method_13_code 20 = .ok (.iload_n 2, 1) := by decide +kernel
theorem d_Folder_indexOfNamed_21 : decode prog_3_method_13_code 21 = .ok (.iload_n 1, 1) := by decide +kernel
theorem d_Folder_indexOfNamed_22 : decode prog_3_method_13_code 22 = .ok (.if_icmp .ne 5, 3) := by decide +kernel
theorem d_Folder_indexOfNamed_25 : decode prog_3_method_13_code 25 = .ok (.iload_n 3, 1) := by decide +kernel
theorem d_Folder_indexOfNamed_26 : decode prog_3_method_13_code 26 = .ok (.ireturn, 1) := by decide +kernel
theorem d_Folder_indexOfNamed_27 : decode prog_3_method_13_code 27 = .ok (.iinc 2 1, 3) := by decide +kernel
theorem d_Folder_indexOfNamed_30 : decode prog_3_method_13_code 30 = .ok (.iinc 3 1, 3) := by decide +kernel
theorem d_Folder_indexOfNamed_33 : decode prog_3_method_13_code 33 = .ok (.goto (-29), 3) := by decide +kernel
theorem d_Folder_indexOfNamed_36 : decode prog_3_method_13_code 36 = .ok (.iconst (-1), 1) := by decide +kernel
theorem d_Folder_indexOfNamed_37 : decode prog_3_method_13_code 37 = .ok (.ireturn, 1) := by decide +kernel
theorem d_V_canBeListed_0 : decode prog_1_method_27_code 0 = .ok (.iload_n 0, 1) := by decide +kernel
theorem d_V_canBeListed_1 : decode prog_1_method_27_code 1 = .ok (.ifCond .lt 8, 3) := by decide +kernel
theorem d_V_canBeListed_4 : decode prog_1_method_27_code 4 = .ok (.iload_n 0, 1) := by decide +kernel
theorem d_V_canBeListed_5 : decode prog_1_method_27_code 5 = .ok (.iconst 3, 1) := by decide +kernel
theorem d_V_canBeListed_6 : decode prog_1_method_27_code 6 = .ok (.if_icmp .le 27, 3) := by decide +kernel
theorem d_V_canBeListed_9 : decode prog_1_method_27_code 9 = .ok (.iload_n 0, 1) := by decide +kernel
theorem d_V_canBeListed_10 : decode prog_1_method_27_code 10 = .ok (.bipush 10, 2) := by decide +kernel
theorem d_V_canBeListed_12 : decode prog_1_method_27_code 12 = .ok (.if_icmp .lt 9, 3) := by decide +kernel
theorem d_V_canBeListed_15 : decode prog_1_method_27_code 15 = .ok (.iload_n 0, 1) := by decide +kernel
theorem d_V_canBeListed_16 : decode prog_1_method_27_code 16 = .ok (.bipush 16, 2) := by decide +kernel
theorem d_V_canBeListed_18 : decode prog_1_method_27_code 18 = .ok (.if_icmp .lt 15, 3) := by decide +kernel
theorem d_V_canBeListed_21 : decode prog_1_method_27_code 21 = .ok (.iload_n 0, 1) := by decide +kernel
theorem d_V_canBeListed_22 : decode prog_1_method_27_code 22 = .ok (.bipush 20, 2) := by decide +kernel
theorem d_V_canBeListed_24 : decode prog_1_method_27_code 24 = .ok (.if_icmp .lt 13, 3) := by decide +kernel
theorem d_V_canBeListed_27 : decode prog_1_method_27_code 27 = .ok (.iload_n 0, 1) := by decide +kernel
theorem d_V_canBeListed_28 : decode prog_1_method_27_code 28 = .ok (.bipush 46, 2) := by decide +kernel
theorem d_V_canBeListed_30 : decode prog_1_method_27_code 30 = .ok (.if_icmp .ge 7, 3) := by decide +kernel
theorem d_V_canBeListed_33 : decode prog_1_method_27_code 33 = .ok (.iconst 1, 1) := by decide +kernel
theorem d_V_canBeListed_34 : decode prog_1_method_27_code 34 = .ok (.goto 4, 3) := by decide +kernel
theorem d_V_canBeListed_37 : decode prog_1_method_27_code 37 = .ok (.iconst 0, 1) := by decide +kernel
theorem d_V_canBeListed_38 : decode prog_1_method_27_code 38 = .ok (.ireturn, 1) := by decide +kernel
theorem d_Folder_shortCharOf_0 : decode prog_3_method_21_code 0 = .ok (.iload_n 2, 1) := by decide +kernel
theorem d_Folder_shortCharOf_1 : decode prog_3_method_21_code 1 = .ok (.aload_n 0, 1) := by decide +kernel
theorem d_Folder_shortCharOf_2 : decode prog_3_method_21_code 2 = .ok (.iload_n 1, 1) := by decide +kernel
theorem d_Folder_shortCharOf_3 : decode prog_3_method_21_code 3 = .ok (.invokevirtual 81, 3) := by decide +kernel
theorem d_Folder_shortCharOf_6 : decode prog_3_method_21_code 6 = .ok (.if_icmp .ge 12, 3) := by decide +kernel
theorem d_Folder_shortCharOf_9 : decode prog_3_method_21_code 9 = .ok (.aload_n 0, 1) := by decide +kernel
theorem d_Folder_shortCharOf_10 : decode prog_3_method_21_code 10 = .ok (.iload_n 1, 1) := by decide +kernel
theorem d_Folder_shortCharOf_11 : decode prog_3_method_21_code 11 = .ok (.iload_n 2, 1) := by decide +kernel
theorem d_Folder_shortCharOf_12 : decode prog_3_method_21_code 12 = .ok (.invokevirtual 51, 3) := by decide +kernel
theorem d_Folder_shortCharOf_15 : decode prog_3_method_21_code 15 = .ok (.goto 4, 3) := by decide +kernel
theorem d_Folder_shortCharOf_18 : decode prog_3_method_21_code 18 = .ok (.iconst (-1), 1) := by decide +kernel
theorem d_Folder_shortCharOf_19 : decode prog_3_method_21_code 19 = .ok (.ireturn, 1) := by decide +kernel
theorem d_Folder_longCharOf_0 : decode prog_3_method_28_code 0 = .ok (.iload_n 2, 1) := by decide +kernel
theorem d_Folder_longCharOf_1 : decode prog_3_method_28_code 1 = .ok (.aload_n 0, 1) := by decide +kernel
theorem d_Folder_longCharOf_2 : decode prog_3_method_28_code 2 = .ok (.iload_n 1, 1) := by decide +kernel
theorem d_Folder_longCharOf_3 : decode prog_3_method_28_code 3 = .ok (.aload_n 0, 1) := by decide +kernel
theorem d_Folder_longCharOf_4 : decode prog_3_method_28_code 4 = .ok (.iload_n 1, 1) := by decide +kernel
theorem d_Folder_longCharOf_5 : decode prog_3_method_28_code 5 = .ok (.invokevirtual 74, 3) := by decide +kernel
theorem d_Folder_longCharOf_8 : decode prog_3_method_28_code 8 = .ok (.invokevirtual 95, 3) := by decide +kernel
theorem d_Folder_longCharOf_11 : decode prog_3_method_28_code 11 = .ok (.if_icmp .ge 12, 3) := by decide +kernel
theorem d_Folder_longCharOf_14 : decode prog_3_method_28_code 14 = .ok (.aload_n 0, 1) := by decide +kernel
theorem d_Folder_longCharOf_15 : decode prog_3_method_28_code 15 = .ok (.iload_n 1, 1) := by decide +kernel
theorem d_Folder_longCharOf_16 : decode prog_3_method_28_code 16 = .ok (.iload_n 2, 1) := by decide +kernel
theorem d_Folder_longCharOf_17 : decode prog_3_method_28_code 17 = .ok (.invokevirtual 98, 3) := by decide +kernel
theorem d_Folder_longCharOf_20 : decode prog_3_method_28_code 20 = .ok (.goto 4, 3) := by decide +kernel
theorem d_Folder_longCharOf_23 : decode prog_3_method_28_code 23 = .ok (.iconst (-1), 1) := by decide +kernel
theorem d_Folder_longCharOf_24 : decode prog_3_method_28_code 24 = .ok (.ireturn, 1) := by decide +kernel
theorem d_Folder_sizeOf_0 : decode prog_3_method_9_code 0 = .ok (.aload_n 0, 1) := by decide +kernel
theorem d_Folder_sizeOf_1 : decode prog_3_method_9_code 1 = .ok (.iload_n 1, 1) := by decide +kernel
theorem d_Folder_sizeOf_2 : decode prog_3_method_9_code 2 = .ok (.bipush 10, 2) := by decide +kernel
theorem d_Folder_sizeOf_4 : decode prog_3_method_9_code 4 = .ok (.invokevirtual 55, 3) := by decide +kernel
theorem d_Folder_sizeOf_7 : decode prog_3_method_9_code 7 = .ok (.ireturn, 1) := by decide +kernel
theorem d_V_list_0 : decode prog_1_method_11_code 0 = .ok (.aload_n 0, 1) := by decide +kernel
theorem d_V_list_1 : decode prog_1_method_11_code 1 = .ok (.invokevirtual 70, 3) := by decide +kernel
theorem d_V_list_4 : decode prog_1_method_11_code 4 = .ok (.aload_n 0, 1) := by decide +kernel
theorem d_V_list_5 : decode prog_1_method_11_code 5 = .ok (.getfield 39, 3) := by decide +kernel
theorem d_V_list_8 : decode prog_1_method_11_code 8 = .ok (.aload_n 0, 1) := by decide +kernel
theorem d_V_list_9 : decode prog_1_method_11_code 9 = .ok (.getfield 12, 3) := by decide +kernel
theorem d_V_list_12 : decode prog_1_method_11_code 12 = .ok (.getfield 87, 3) := by decide +kernel
theorem d_V_list_15 : decode prog_1_method_11_code 15 = .ok (.invokevirtual 91, 3) := by decide +kernel
theorem d_V_list_18 : decode prog_1_method_11_code 18 = .ok (.aload_n 0, 1) := by decide +kernel
theorem d_V_list_19 : decode prog_1_method_11_code 19 = .ok (.getfield 39, 3) := by decide +kernel
theorem d_V_list_22 : decode prog_1_method_11_code 22 = .ok (.iload_n 1, 1) := by decide +kernel
theorem d_V_list_23 : decode prog_1_method_11_code 23 = .ok (.invokevirtual 225, 3) := by decide +kernel
theorem d_V_list_26 : decode prog_1_method_11_code 26 = .ok (.istore_n 3, 1) := by decide +kernel
theorem d_V_list_27 : decode prog_1_method_11_code 27 = .ok (.iload_n 3, 1) := by decide +kernel
theorem d_V_list_28 : decode prog_1_method_11_code 28 = .ok (.iconst (-1), 1) := by decide +kernel
theorem d_V_list_29 : decode prog_1_method_11_code 29 = .ok (.if_icmp .ne 13, 3) := by decide +kernel
theorem d_V_list_32 : decode prog_1_method_11_code 32 = .ok (.new 128, 3) := by decide +kernel
theorem d_V_list_35 : decode prog_1_method_11_code 35 = .ok (.dup, 1) := by decide +kernel
theorem d_V_list_36 : decode prog_1_method_11_code 36 = .ok (.ldc 228, 2) := by decide +kernel
theorem d_V_list_38 : decode prog_1_method_11_code 38 = .ok (.invokespecial 132, 3) := by decide +kernel
theorem d_V_list_41 : decode prog_1_method_11_code 41 = .ok (.athrow, 1) := by decide +kernel
theorem d_V_list_42 : decode prog_1_method_11_code 42 = .ok (.iload_n 2, 1) := by decide +kernel
theorem d_V_list_43 : decode prog_1_method_11_code 43 = .ok (.invokestatic 230, 3) := by decide +kernel
theorem d_V_list_46 : decode prog_1_method_11_code 46 = .ok (.ifCond .ne 13, 3) := by decide +kernel
theorem d_V_list_49 : decode prog_1_method_11_code 49 = .ok (.new 233, 3) := by decide +kernel
theorem d_V_list_52 : decode prog_1_method_11_code 52 = .ok (.dup, 1) := by decide +kernel
theorem d_V_list_53 : decode prog_1_method_11_code 53 = .ok (.ldc 235, 2) := by decide +kernel
theorem d_V_list_55 : decode prog_1_method_11_code 55 = .ok (.invokespecial 237, 3) := by decide +kernel
theorem d_V_list_58 : decode prog_1_method_11_code 58 = .ok (.athrow, 1) := by decide +kernel
theorem d_V_list_59 : decode prog_1_method_11_code 59 = .ok (.iload_n 2, 1) := by decide +kernel
theorem d_V_list_60 : decode prog_1_method_11_code 60 = .ok (.tableswitch 76 0 3 #[32, 41, 50, 59], 32) := by decide +kernel
theorem d_V_list_92 : decode prog_1_method_11_code 92 = .ok (.aload_n 0, 1) := by decide +kernel
theorem d_V_list_93 : decode prog_1_method_11_code 93 = .ok (.getfield 39, 3) := by decide +kernel
theorem d_V_list_96 : decode prog_1_method_11_code 96 = .ok (.iload_n 3, 1) := by decide +kernel
theorem d_V_list_97 : decode prog_1_method_11_code 97 = .ok (.invokevirtual 238, 3) := by decide +kernel
theorem d_V_list_100 : decode prog_1_method_11_code 100 = .ok (.ireturn, 1) := by decide +kernel
theorem d_V_list_101 : decode prog_1_method_11_code 101 = .ok (.aload_n 0, 1) := by decide +kernel
theorem d_V_list_102 : decode prog_1_method_11_code 102 = .ok (.getfield 39, 3) := by decide +kernel
theorem d_V_list_105 : decode prog_1_method_11_code 105 = .ok (.iload_n 3, 1) := by decide +kernel
theorem d_V_list_106 : decode prog_1_method_11_code 106 = .ok (.invokevirtual 241, 3) := by decide +kernel
theorem d_V_list_109 : decode prog_1_method_11_code 109 = .ok (.ireturn, 1) := by decide +kernel
theorem d_V_list_110 : decode prog_1_method_11_code 110 = .ok (.aload_n 0, 1) := by decide +kernel
theorem d_V_list_111 : decode prog_1_method_11_code 111 = .ok (.getfield 39, 3) := by decide +kernel
theorem d_V_list_114 : decode prog_1_method_11_code 114 = .ok (.iload_n 3, 1) := by decide +kernel
theorem d_V_list_115 : decode prog_1_method_11_code 115 = .ok (.invokevirtual 142, 3) := by decide +kernel
theorem d_V_list_118 : decode prog_1_method_11_code 118 = .ok (.ireturn, 1) := by decide +kernel
theorem d_V_list_119 : decode prog_1_method_11_code 119 = .ok (.aload_n 0, 1) := by decide +kernel
theorem d_V_list_120 : decode prog_1_method_11_code 120 = .ok (.getfield 39, 3) := by decide +kernel
theorem d_V_list_123 : decode prog_1_method_11_code 123 = .ok (.iload_n 3, 1) := by decide +kernel
theorem d_V_list_124 : decode prog_1_method_11_code 124 = .ok (.aload_n 0, 1) := by decide +kernel
theorem d_V_list_125 : decode prog_1_method_11_code 125 = .ok (.getfield 39, 3) := by decide +kernel
theorem d_V_list_128 : decode prog_1_method_11_code 128 = .ok (.iload_n 3, 1) := by decide +kernel
theorem d_V_list_129 : decode prog_1_method_11_code 129 = .ok (.invokevirtual 244, 3) := by decide +kernel
theorem d_V_list_132 : decode prog_1_method_11_code 132 = .ok (.invokevirtual 247, 3) := by decide +kernel
theorem d_V_list_135 : decode prog_1_method_11_code 135 = .ok (.ireturn, 1) := by decide +kernel
theorem d_V_list_136 : decode prog_1_method_11_code 136 = .ok (.iload_n 2, 1) := by decide +kernel
theorem d_V_list_137 : decode prog_1_method_11_code 137 = .ok (.bipush 20, 2) := by decide +kernel
theorem d_V_list_139 : decode prog_1_method_11_code 139 = .ok (.if_icmp .ge 18, 3) := by decide +kernel
theorem d_V_list_142 : decode prog_1_method_11_code 142 = .ok (.aload_n 0, 1) := by decide +kernel
theorem d_V_list_143 : decode prog_1_method_11_code 143 = .ok (.getfield 39, 3) := by decide +kernel
theorem d_V_list_146 : decode prog_1_method_11_code 146 = .ok (.iload_n 3, 1) := by decide +kernel
theorem d_V_list_147 : decode prog_1_method_11_code 147 = .ok (.iload_n 2, 1) := by decide +kernel
theorem d_V_list_148 : decode prog_1_method_11_code 148 = .ok (.bipush 10, 2) := by decide +kernel
theorem d_V_list_150 : decode prog_1_method_11_code 150 = .ok (.isub, 1) := by decide +kernel
theorem d_V_list_151 : decode prog_1_method_11_code 151 = .ok (.invokevirtual 250, 3) := by decide +kernel
theorem d_V_list_154 : decode prog_1_method_11_code 154 = .ok (.goto 15, 3) := by decide +kernel
theorem d_V_list_157 : decode prog_1_method_11_code 157 = .ok (.aload_n 0, 1) := by decide +kernel
theorem d_V_list_158 : decode prog_1_method_11_code 158 = .ok (.getfield 39, 3) := by decide +kernel
theorem d_V_list_161 : decode prog_1_method_11_code 161 = .ok (.iload_n 3, 1) := by decide +kernel
theorem d_V_list_162 : decode prog_1_method_11_code 162 = .ok (.iload_n 2, 1) := by decide +kernel
theorem d_V_list_163 : decode prog_1_method_11_code 163 = .ok (.bipush 20, 2) := by decide +kernel
theorem d_V_list_165 : decode prog_1_method_11_code 165 = .ok (.isub, 1) := by decide +kernel
theorem d_V_list_166 : decode prog_1_method_11_code 166 = .ok (.invokevirtual 253, 3) := by decide +kernel
theorem d_V_list_169 : decode prog_1_method_11_code 169 = .ok (.ireturn, 1) := by decide +kernel
theorem d_Disk_setCut_0 : decode prog_2_method_5_code 0 = .ok (.iload_n 1, 1) := by decide +kernel
theorem d_Disk_setCut_1 : decode prog_2_method_5_code 1 = .ok (.ifCond .lt 10, 3) := by decide +kernel
theorem d_Disk_setCut_4 : decode prog_2_method_5_code 4 = .ok (.aload_n 0, 1) := by decide +kernel
theorem d_Disk_setCut_5 : decode prog_2_method_5_code 5 = .ok (.getfield 19, 3) := by decide +kernel
theorem d_Disk_setCut_8 : decode prog_2_method_5_code 8 = .ok (.ifCond .ne 5, 3) := by decide +kernel
theorem d_Disk_setCut_11 : decode prog_2_method_5_code 11 = .ok (.iconst 0, 1) := by decide +kernel
theorem d_Disk_setCut_12 : decode prog_2_method_5_code 12 = .ok (.ireturn, 1) := by decide +kernel
theorem d_Disk_setCut_13 : decode prog_2_method_5_code 13 = .ok (.aload_n 0, 1) := by decide +kernel
theorem d_Disk_setCut_14 : decode prog_2_method_5_code 14 = .ok (.iconst 1, 1) := by decide +kernel
theorem d_Disk_setCut_15 : decode prog_2_method_5_code 15 = .ok (.putfield 23, 3) := by decide +kernel
theorem d_Disk_setCut_18 : decode prog_2_method_5_code 18 = .ok (.aload_n 0, 1) := by decide +kernel
theorem d_Disk_setCut_19 : decode prog_2_method_5_code 19 = .ok (.iload_n 1, 1) := by decide +kernel
theorem d_Disk_setCut_20 : decode prog_2_method_5_code 20 = .ok (.putfield 26, 3) := by decide +kernel
theorem d_Disk_setCut_23 : decode prog_2_method_5_code 23 = .ok (.iconst 1, 1) := by decide +kernel
theorem d_Disk_setCut_24 : decode prog_2_method_5_code 24 = .ok (.ireturn, 1) := by decide +kernel
theorem d_V_cut_0 : decode prog_1_method_12_code 0 = .ok (.aload_n 0, 1) := by decide +kernel
theorem d_V_cut_1 : decode prog_1_method_12_code 1 = .ok (.getfield 21, 3) := by decide +kernel
theorem d_V_cut_4 : decode prog_1_method_12_code 4 = .ok (.iload_n 1, 1) := by decide +kernel
theorem d_V_cut_5 : decode prog_1_method_12_code 5 = .ok (.invokevirtual 256, 3) := by decide +kernel
theorem d_V_cut_8 : decode prog_1_method_12_code 8 = .ok (.ireturn, 1) := by decide +kernel
theorem d_Disk_switchOn_0 : decode prog_2_method_6_code 0 = .ok (.aload_n 0, 1) := by decide +kernel
theorem d_Disk_switchOn_1 : decode prog_2_method_6_code 1 = .ok (.getfield 19, 3) := by decide +kernel
theorem d_Disk_switchOn_4 : decode prog_2_method_6_code 4 = .ok (.ifCond .ne 7, 3) := by decide +kernel
theorem d_Disk_switchOn_7 : decode prog_2_method_6_code 7 = .ok (.iconst 1, 1) := by decide +kernel
theorem d_Disk_switchOn_8 : decode prog_2_method_6_code 8 = .ok (.goto 4, 3) := by decide +kernel
theorem d_Disk_switchOn_11 : decode prog_2_method_6_code 11 = .ok (.iconst 0, 1) := by decide +kernel
theorem d_Disk_switchOn_12 : decode prog_2_method_6_code 12 = .ok (.istore_n 1, 1) := by decide +kernel
theorem d_Disk_switchOn_13 : decode prog_2_method_6_code 13 = .ok (.aload_n 0, 1) := by decide +kernel
theorem d_Disk_switchOn_14 : decode prog_2_method_6_code 14 = .ok (.iconst 1, 1) := by decide +kernel
theorem d_Disk_switchOn_15 : decode prog_2_method_6_code 15 = .ok (.putfield 19, 3) := by decide +kernel
theorem d_Disk_switchOn_18 : decode prog_2_method_6_code 18 = .ok (.iload_n 1, 1) := by decide +kernel
theorem d_Disk_switchOn_19 : decode prog_2_method_6_code 19 = .ok (.ireturn, 1) := by decide +kernel
theorem d_V_power_0 : decode prog_1_method_13_code 0 = .ok (.aload_n 0, 1) := by decide +kernel
theorem d_V_power_1 : decode prog_1_method_13_code 1 = .ok (.getfield 21, 3) := by decide +kernel
theorem d_V_power_4 : decode prog_1_method_13_code 4 = .ok (.invokevirtual 259, 3) := by decide +kernel
theorem d_V_power_7 : decode prog_1_method_13_code 7 = .ok (.ireturn, 1) := by decide +kernel
theorem d_V_isOnDisk_0 : decode prog_1_method_28_code 0 = .ok (.iload_n 0, 1) := by decide +kernel
theorem d_V_isOnDisk_1 : decode prog_1_method_28_code 1 = .ok (.ifCond .lt 23, 3) := by decide +kernel
theorem d_V_isOnDisk_4 : decode prog_1_method_28_code 4 = .ok (.iload_n 0, 1) := by decide +kernel
theorem d_V_isOnDisk_5 : decode prog_1_method_28_code 5 = .ok (.bipush 70, 2) := by decide +kernel
theorem d_V_isOnDisk_7 : decode prog_1_method_28_code 7 = .ok (.if_icmp .ge 17, 3) := by decide +kernel
theorem d_V_isOnDisk_10 : decode prog_1_method_28_code 10 = .ok (.iload_n 1, 1) := by decide +kernel
theorem d_V_isOnDisk_11 : decode prog_1_method_28_code 11 = .ok (.ifCond .lt 13, 3) := by decide +kernel
theorem d_V_isOnDisk_14 : decode prog_1_method_28_code 14 = .ok (.iload_n 1, 1) := by decide +kernel
theorem d_V_isOnDisk_15 : decode prog_1_method_28_code 15 = .ok (.bipush 32, 2) := by decide +kernel
theorem d_V_isOnDisk_17 : decode prog_1_method_28_code 17 = .ok (.if_icmp .ge 7, 3) := by decide +kernel
theorem d_V_isOnDisk_20 : decode prog_1_method_28_code 20 = .ok (.iconst 1, 1) := by decide +kernel
theorem d_V_isOnDisk_21 : decode prog_1_method_28_code 21 = .ok (.goto 4, 3) := by decide +kernel
theorem d_V_isOnDisk_24 : decode prog_1_method_28_code 24 = .ok (.iconst 0, 1) := by decide +kernel
theorem d_V_isOnDisk_25 : decode prog_1_method_28_code 25 = .ok (.ireturn, 1) := by decide +kernel
theorem d_V_octet_0 : decode prog_1_method_15_code 0 = .ok (.iload_n 1, 1) := by decide +kernel
theorem d_V_octet_1 : decode prog_1_method_15_code 1 = .ok (.iload_n 2, 1) := by decide +kernel
theorem d_V_octet_2 : decode prog_1_method_15_code 2 = .ok (.invokestatic 292, 3) := by decide +kernel
theorem d_V_octet_5 : decode prog_1_method_15_code 5 = .ok (.ifCond .eq 19, 3) := by decide +kernel
theorem d_V_octet_8 : decode prog_1_method_15_code 8 = .ok (.aload_n 0, 1) := by decide +kernel
theorem d_V_octet_9 : decode prog_1_method_15_code 9 = .ok (.getfield 21, 3) := by decide +kernel
theorem d_V_octet_12 : decode prog_1_method_15_code 12 = .ok (.iload_n 1, 1) := by decide +kernel
theorem d_V_octet_13 : decode prog_1_method_15_code 13 = .ok (.bipush 32, 2) := by decide +kernel
theorem d_V_octet_15 : decode prog_1_method_15_code 15 = .ok (.imul, 1) := by decide +kernel
theorem d_V_octet_16 : decode prog_1_method_15_code 16 = .ok (.iload_n 2, 1) := by decide +kernel
theorem d_V_octet_17 : decode prog_1_method_15_code 17 = .ok (.iadd, 1) := by decide +kernel
theorem d_V_octet_18 : decode prog_1_method_15_code 18 = .ok (.invokevirtual 205, 3) := by decide +kernel
theorem d_V_octet_21 : decode prog_1_method_15_code 21 = .ok (.goto 4, 3) := by decide +kernel
theorem d_V_octet_24 : decode prog_1_method_15_code 24 = .ok (.iconst (-1), 1) := by decide +kernel
theorem d_V_octet_25 : decode prog_1_method_15_code 25 = .ok (.ireturn, 1) := by decide +kernel
theorem d_Disk_put_0 : decode prog_2_method_4_code 0 = .ok (.iload_n 1, 1) := by decide +kernel
theorem d_Disk_put_1 : decode prog_2_method_4_code 1 = .ok (.ifCond .lt 23, 3) := by decide +kernel
theorem d_Disk_put_4 : decode prog_2_method_4_code 4 = .ok (.iload_n 1, 1) := by decide +kernel
theorem d_Disk_put_5 : decode prog_2_method_4_code 5 = .ok (.aload_n 0, 1) := by decide +kernel
theorem d_Disk_put_6 : decode prog_2_method_4_code 6 = .ok (.getfield 15, 3) := by decide +kernel
theorem d_Disk_put_9 : decode prog_2_method_4_code 9 = .ok (.arraylength, 1) := by decide +kernel
theorem d_Disk_put_10 : decode prog_2_method_4_code 10 = .ok (.if_icmp .ge 14, 3) := by decide +kernel
theorem d_Disk_put_13 : decode prog_2_method_4_code 13 = .ok (.aload_n 0, 1) := by decide +kernel
theorem d_Disk_put_14 : decode prog_2_method_4_code 14 = .ok (.getfield 15, 3) := by decide +kernel
theorem d_Disk_put_17 : decode prog_2_method_4_code 17 = .ok (.iload_n 1, 1) := by decide +kernel
theorem d_Disk_put_18 : decode prog_2_method_4_code 18 = .ok (.iload_n 2, 1) := by decide +kernel
theorem d_Disk_put_19 : decode prog_2_method_4_code 19 = .ok (.sipush 255, 3) := by decide +kernel
theorem d_Disk_put_22 : decode prog_2_method_4_code 22 = .ok (.iand, 1) := by decide +kernel
theorem d_Disk_put_23 : decode prog_2_method_4_code 23 = .ok (.iastore, 1) := by decide +kernel
theorem d_Disk_put_24 : decode prog_2_method_4_code 24 = .ok (.return_, 1) := by decide +kernel
theorem d_Ses_leave_0 : decode prog_6_method_5_code 0 = .ok (.aload_n 0, 1) := by decide +kernel
theorem d_Ses_leave_1 : decode prog_6_method_5_code 1 = .ok (.iconst 2, 1) := by decide +kernel
theorem d_Ses_leave_2 : decode prog_6_method_5_code 2 = .ok (.putfield 29, 3) := by decide +kernel
theorem d_Ses_leave_5 : decode prog_6_method_5_code 5 = .ok (.aload_n 0, 1) := by decide +kernel
theorem d_Ses_leave_6 : decode prog_6_method_5_code 6 = .ok (.iconst 1, 1) := by decide +kernel
theorem d_Ses_leave_7 : decode prog_6_method_5_code 7 = .ok (.putfield 32, 3) := by decide +kernel
theorem d_Ses_leave_10 : decode prog_6_method_5_code 10 = .ok (.iconst 0, 1) := by decide +kernel
theorem d_Ses_leave_11 : decode prog_6_method_5_code 11 = .ok (.istore_n 1, 1) := by decide +kernel
theorem d_Ses_leave_12 : decode prog_6_method_5_code 12 = .ok (.iload_n 1, 1) := by decide +kernel
theorem d_Ses_leave_13 : decode prog_6_method_5_code 13 = .ok (.iconst 4, 1) := by decide +kernel
theorem d_Ses_leave_14 : decode prog_6_method_5_code 14 = .ok (.if_icmp .ge 23, 3) := by decide +kernel
theorem d_Ses_leave_17 : decode prog_6_method_5_code 17 = .ok (.aload_n 0, 1) := by decide +kernel
theorem d_Ses_leave_18 : decode prog_6_method_5_code 18 = .ok (.getfield 15, 3) := by decide +kernel
theorem d_Ses_leave_21 : decode prog_6_method_5_code 21 = .ok (.iload_n 1, 1) := by decide +kernel
theorem d_Ses_leave_22 : decode prog_6_method_5_code 22 = .ok (.iconst (-1), 1) := by decide +kernel
theorem d_Ses_leave_23 : decode prog_6_method_5_code 23 = .ok (.iastore, 1) := by decide +kernel
theorem d_Ses_leave_24 : decode prog_6_method_5_code 24 = .ok (.aload_n 0, 1) := by decide +kernel
theorem d_Ses_leave_25 : decode prog_6_method_5_code 25 = .ok (.getfield 19, 3) := by decide +kernel
theorem d_Ses_leave_28 : decode prog_6_method_5_code 28 = .ok (.iload_n 1, 1) := by decide +kernel
theorem d_Ses_leave_29 : decode prog_6_method_5_code 29 = .ok (.iconst 0, 1) := by decide +kernel
theorem d_Ses_leave_30 : decode prog_6_method_5_code 30 = .ok (.iastore, 1) := by decide +kernel
theorem d_Ses_leave_31 : decode prog_6_method_5_code 31 = .ok (.iinc 1 1, 3) := by decide +kernel
theorem d_Ses_leave_34 : decode prog_6_method_5_code 34 = .ok (.goto (-22), 3) := by decide +kernel
theorem d_Ses_leave_37 : decode prog_6_method_5_code 37 = .ok (.return_, 1) := by decide +kernel
theorem d_V_poke_0 : decode prog_1_method_16_code 0 = .ok (.iload_n 1, 1) := by decide +kernel
theorem d_V_poke_1 : decode prog_1_method_16_code 1 = .ok (.iload_n 2, 1) := by decide +kernel
theorem d_V_poke_2 : decode prog_1_method_16_code 2 = .ok (.invokestatic 292, 3) := by decide +kernel
theorem d_V_poke_5 : decode prog_1_method_16_code 5 = .ok (.ifCond .ne 5, 3) := by decide +kernel
theorem d_V_poke_8 : decode prog_1_method_16_code 8 = .ok (.iconst 0, 1) := by decide +kernel
theorem d_V_poke_9 : decode prog_1_method_16_code 9 = .ok (.ireturn, 1) := by decide +kernel
theorem d_V_poke_10 : decode prog_1_method_16_code 10 = .ok (.aload_n 0, 1) := by decide +kernel
theorem d_V_poke_11 : decode prog_1_method_16_code 11 = .ok (.getfield 21, 3) := by decide +kernel
theorem d_V_poke_14 : decode prog_1_method_16_code 14 = .ok (.iload_n 1, 1) := by decide +kernel
theorem d_V_poke_15 : decode prog_1_method_16_code 15 = .ok (.bipush 32, 2) := by decide +kernel
theorem d_V_poke_17 : decode prog_1_method_16_code 17 = .ok (.imul, 1) := by decide +kernel
theorem d_V_poke_18 : decode prog_1_method_16_code 18 = .ok (.iload_n 2, 1) := by decide +kernel
theorem d_V_poke_19 : decode prog_1_method_16_code 19 = .ok (.iadd, 1) := by decide +kernel
theorem d_V_poke_20 : decode prog_1_method_16_code 20 = .ok (.iload_n 3, 1) := by decide +kernel
theorem d_V_poke_21 : decode prog_1_method_16_code 21 = .ok (.invokevirtual 296, 3) := by decide +kernel
theorem d_V_poke_24 : decode prog_1_method_16_code 24 = .ok (.aload_n 0, 1) := by decide +kernel
theorem d_V_poke_25 : decode prog_1_method_16_code 25 = .ok (.getfield 21, 3) := by decide +kernel
theorem d_V_poke_28 : decode prog_1_method_16_code 28 = .ok (.iconst 1, 1) := by decide +kernel
theorem d_V_poke_29 : decode prog_1_method_16_code 29 = .ok (.putfield 286, 3) := by decide +kernel
theorem d_V_poke_32 : decode prog_1_method_16_code 32 = .ok (.aload_n 0, 1) := by decide +kernel
theorem d_V_poke_33 : decode prog_1_method_16_code 33 = .ok (.getfield 12, 3) := by decide +kernel
theorem d_V_poke_36 : decode prog_1_method_16_code 36 = .ok (.invokevirtual 271, 3) := by decide +kernel
theorem d_V_poke_39 : decode prog_1_method_16_code 39 = .ok (.iconst 1, 1) := by decide +kernel
theorem d_V_poke_40 : decode prog_1_method_16_code 40 = .ok (.ireturn, 1) := by decide +kernel
theorem d_Table_isFree_0 : decode prog_7_method_6_code 0 = .ok (.aload_n 0, 1) := by decide +kernel
theorem d_Table_isFree_1 : decode prog_7_method_6_code 1 = .ok (.iload_n 1, 1) := by decide +kernel
theorem d_Table_isFree_2 : decode prog_7_method_6_code 2 = .ok (.invokevirtual 25, 3) := by decide +kernel
theorem d_Table_isFree_5 : decode prog_7_method_6_code 5 = .ok (.ifCond .ne 7, 3) := by decide +kernel
theorem d_Table_isFree_8 : decode prog_7_method_6_code 8 = .ok (.iconst 1, 1) := by decide +kernel
theorem d_Table_isFree_9 : decode prog_7_method_6_code 9 = .ok (.goto 4, 3) := by decide +kernel
theorem d_Table_isFree_12 : decode prog_7_method_6_code 12 = .ok (.iconst 0, 1) := by decide +kernel
theorem d_Table_isFree_13 : decode prog_7_method_6_code 13 = .ok (.ireturn, 1) := by decide +kernel
theorem d_Table_countFree_0 : decode prog_7_method_7_code 0 = .ok (.iconst 0, 1) := by decide +kernel
theorem d_Table_countFree_1 : decode prog_7_method_7_code 1 = .ok (.istore_n 1, 1) := by decide +kernel
theorem d_Table_countFree_2 : decode prog_7_method_7_code 2 = .ok (.iconst 2, 1) := by decide +kernel
theorem d_Table_countFree_3 : decode prog_7_method_7_code 3 = .ok (.istore_n 2, 1) := by decide +kernel
theorem d_Table_countFree_4 : decode prog_7_method_7_code 4 = .ok (.iload_n 2, 1) := by decide +kernel
theorem d_Table_countFree_5 : decode prog_7_method_7_code 5 = .ok (.bipush 64, 2) := by decide +kernel
theorem d_Table_countFree_7 : decode prog_7_method_7_code 7 = .ok (.if_icmp .ge 20, 3) := by decide +kernel
theorem d_Table_countFree_10 : decode prog_7_method_7_code 10 = .ok (.aload_n 0, 1) := by decide +kernel
theorem d_Table_countFree_11 : decode prog_7_method_7_code 11 = .ok (.iload_n 2, 1) := by decide +kernel
theorem d_Table_countFree_12 : decode prog_7_method_7_code 12 = .ok (.invokevirtual 28, 3) := by decide +kernel
theorem d_Table_countFree_15 : decode prog_7_method_7_code 15 = .ok (.ifCond .eq 6, 3) := by decide +kernel
theorem d_Table_countFree_18 : decode prog_7_method_7_code 18 = .ok (.iinc 1 1, 3) := by decide +kernel
theorem d_Table_countFree_21 : decode prog_7_method_7_code 21 = .ok (.iinc 2 1, 3) := by decide +kernel
theorem d_Table_countFree_24 : decode prog_7_method_7_code 24 = .ok (.goto (-20), 3) := by decide +kernel
theorem d_Table_countFree_27 : decode prog_7_method_7_code 27 = .ok (.iload_n 1, 1) := by decide +kernel
theorem d_Table_countFree_28 : decode prog_7_method_7_code 28 = .ok (.ireturn, 1) := by decide +kernel
theorem d_V_look_0 : decode prog_1_method_17_code 0 = .ok (.iload_n 1, 1) := by decide +kernel
theorem d_V_look_1 : decode prog_1_method_17_code 1 = .ok (.tableswitch 83 0 4 #[35, 51, 59, 67, 75], 35) := by decide +kernel
theorem d_V_look_36 : decode prog_1_method_17_code 36 = .ok (.aload_n 0, 1) := by decide +kernel
theorem d_V_look_37 : decode prog_1_method_17_code 37 = .ok (.getfield 21, 3) := by decide +kernel
theorem d_V_look_40 : decode prog_1_method_17_code 40 = .ok (.getfield 262, 3) := by decide +kernel
theorem d_V_look_43 : decode prog_1_method_17_code 43 = .ok (.ifCond .eq 7, 3) := by decide +kernel
theorem d_V_look_46 : decode prog_1_method_17_code 46 = .ok (.iconst 1, 1) := by decide +kernel
theorem d_V_look_47 : decode prog_1_method_17_code 47 = .ok (.goto 4, 3) := by decide +kernel
theorem d_V_look_50 : decode prog_1_method_17_code 50 = .ok (.iconst 0, 1) := by decide +kernel
theorem d_V_look_51 : decode prog_1_method_17_code 51 = .ok (.ireturn, 1) := by decide +kernel
theorem d_V_look_52 : decode prog_1_method_17_code 52 = .ok (.aload_n 0, 1) := by decide +kernel
theorem d_V_look_53 : decode prog_1_method_17_code 53 = .ok (.getfield 21, 3) := by decide +kernel
theorem d_V_look_56 : decode prog_1_method_17_code 56 = .ok (.getfield 299, 3) := by decide +kernel
theorem d_V_look_59 : decode prog_1_method_17_code 59 = .ok (.ireturn, 1) := by decide +kernel
theorem d_V_look_60 : decode prog_1_method_17_code 60 = .ok (.aload_n 0, 1) := by decide +kernel
theorem d_V_look_61 : decode prog_1_method_17_code 61 = .ok (.getfield 30, 3) := by decide +kernel
theorem d_V_look_64 : decode prog_1_method_17_code 64 = .ok (.invokevirtual 302, 3) := by decide +kernel
theorem d_V_look_67 : decode prog_1_method_17_code 67 = .ok (.ireturn, 1) := by decide +kernel
theorem d_V_look_68 : decode prog_1_method_17_code 68 = .ok (.aload_n 0, 1) := by decide +kernel
theorem d_V_look_69 : decode prog_1_method_17_code 69 = .ok (.getfield 12, 3) := by decide +kernel
theorem d_V_look_72 : decode prog_1_method_17_code 72 = .ok (.getfield 87, 3) := by decide +kernel
theorem d_V_look_75 : decode prog_1_method_17_code 75 = .ok (.ireturn, 1) := by decide +kernel
theorem d_V_look_76 : decode prog_1_method_17_code 76 = .ok (.aload_n 0, 1) := by decide +kernel
theorem d_V_look_77 : decode prog_1_method_17_code 77 = .ok (.getfield 12, 3) := by decide +kernel
theorem d_V_look_80 : decode prog_1_method_17_code 80 = .ok (.getfield 305, 3) := by decide +kernel
theorem d_V_look_83 : decode prog_1_method_17_code 83 = .ok (.ireturn, 1) := by decide +kernel
theorem d_V_look_84 : decode prog_1_method_17_code 84 = .ok (.iload_n 1, 1) := by decide +kernel
theorem d_V_look_85 : decode prog_1_method_17_code 85 = .ok (.bipush 10, 2) := by decide +kernel
theorem d_V_look_87 : decode prog_1_method_17_code 87 = .ok (.if_icmp .lt 31, 3) := by decide +kernel
theorem d_V_look_90 : decode prog_1_method_17_code 90 = .ok (.aload_n 0, 1) := by decide +kernel
theorem d_V_look_91 : decode prog_1_method_17_code 91 = .ok (.getfield 12, 3) := by decide +kernel
theorem d_V_look_94 : decode prog_1_method_17_code 94 = .ok (.iload_n 1, 1) := by decide +kernel
theorem d_V_look_95 : decode prog_1_method_17_code 95 = .ok (.bipush 10, 2) := by decide +kernel
theorem d_V_look_97 : decode prog_1_method_17_code 97 = .ok (.isub, 1) := by decide +kernel
theorem d_V_look_98 : decode prog_1_method_17_code 98 = .ok (.invokevirtual 173, 3) := by decide +kernel
theorem d_V_look_101 : decode prog_1_method_17_code 101 = .ok (.ifCond .eq 17, 3) := by decide +kernel
theorem d_V_look_104 : decode prog_1_method_17_code 104 = .ok (.aload_n 0, 1) := by decide +kernel
theorem d_V_look_105 : decode prog_1_method_17_code 105 = .ok (.getfield 12, 3) := by decide +kernel
theorem d_V_look_108 : decode prog_1_method_17_code 108 = .ok (.iload_n 1, 1) := by decide +kernel
theorem d_V_look_109 : decode prog_1_method_17_code 109 = .ok (.bipush 10, 2) := by decide +kernel
theorem d_V_look_111 : decode prog_1_method_17_code 111 = .ok (.isub, 1) := by decide +kernel
theorem d_V_look_112 : decode prog_1_method_17_code 112 = .ok (.invokevirtual 187, 3) := by decide +kernel
theorem d_V_look_115 : decode prog_1_method_17_code 115 = .ok (.goto 4, 3) := by decide +kernel
theorem d_V_look_118 : decode prog_1_method_17_code 118 = .ok (.iconst (-1), 1) := by decide +kernel
theorem d_V_look_119 : decode prog_1_method_17_code 119 = .ok (.ireturn, 1) := by decide +kernel
