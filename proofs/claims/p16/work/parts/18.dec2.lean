theorem d_Folder_markFreed_11 : decode prog_3_method_29_code 11 = .ok (.getfield 9, 3) := by decide +kernel
theorem d_Folder_markFreed_14 : decode prog_3_method_29_code 14 = .ok (.aload_n 0, 1) := by decide +kernel
theorem d_Folder_markFreed_15 : decode prog_3_method_29_code 15 = .ok (.iload_n 1, 1) := by decide +kernel
theorem d_Folder_markFreed_16 : decode prog_3_method_29_code 16 = .ok (.iload_n 2, 1) := by decide +kernel
theorem d_Folder_markFreed_17 : decode prog_3_method_29_code 17 = .ok (.isub, 1) := by decide +kernel
theorem d_Folder_markFreed_18 : decode prog_3_method_29_code 18 = .ok (.invokevirtual 118, 3) := by decide +kernel
theorem d_Folder_markFreed_21 : decode prog_3_method_29_code 21 = .ok (.sipush 229, 3) := by decide +kernel
theorem d_Folder_markFreed_24 : decode prog_3_method_29_code 24 = .ok (.invokevirtual 121, 3) := by decide +kernel
theorem d_Folder_markFreed_27 : decode prog_3_method_29_code 27 = .ok (.iinc 2 (-1), 3) := by decide +kernel
theorem d_Folder_markFreed_30 : decode prog_3_method_29_code 30 = .ok (.goto (-24), 3) := by decide +kernel
theorem d_Folder_markFreed_33 : decode prog_3_method_29_code 33 = .ok (.aload_n 0, 1) := by decide +kernel
theorem d_Folder_markFreed_34 : decode prog_3_method_29_code 34 = .ok (.getfield 9, 3) := by decide +kernel
theorem d_Folder_markFreed_37 : decode prog_3_method_29_code 37 = .ok (.aload_n 0, 1) := by decide +kernel
theorem d_Folder_markFreed_38 : decode prog_3_method_29_code 38 = .ok (.iload_n 1, 1) := by decide +kernel
theorem d_Folder_markFreed_39 : decode prog_3_method_29_code 39 = .ok (.invokevirtual 118, 3) := by decide +kernel
theorem d_Folder_markFreed_42 : decode prog_3_method_29_code 42 = .ok (.sipush 229, 3) := by decide +kernel
theorem d_Folder_markFreed_45 : decode prog_3_method_29_code 45 = .ok (.invokevirtual 121, 3) := by decide +kernel
theorem d_Folder_markFreed_48 : decode prog_3_method_29_code 48 = .ok (.return_, 1) := by decide +kernel
theorem d_Table_release_0 : decode prog_7_method_10_code 0 = .ok (.iload_n 1, 1) := by decide +kernel
theorem d_Table_release_1 : decode prog_7_method_10_code 1 = .ok (.istore_n 2, 1) := by decide +kernel
theorem d_Table_release_2 : decode prog_7_method_10_code 2 = .ok (.iconst 0, 1) := by decide +kernel
theorem d_Table_release_3 : decode prog_7_method_10_code 3 = .ok (.istore_n 3, 1) := by decide +kernel
theorem d_Table_release_4 : decode prog_7_method_10_code 4 = .ok (.iload_n 3, 1) := by decide +kernel
theorem d_Table_release_5 : decode prog_7_method_10_code 5 = .ok (.bipush 64, 2) := by decide +kernel
theorem d_Table_release_7 : decode prog_7_method_10_code 7 = .ok (.if_icmp .ge 32, 3) := by decide +kernel
theorem d_Table_release_10 : decode prog_7_method_10_code 10 = .ok (.iload_n 2, 1) := by decide +kernel
theorem d_Table_release_11 : decode prog_7_method_10_code 11 = .ok (.invokestatic 47, 3) := by decide +kernel
theorem d_Table_release_14 : decode prog_7_method_10_code 14 = .ok (.ifCond .eq 25, 3) := by decide +kernel
theorem d_Table_release_17 : decode prog_7_method_10_code 17 = .ok (.aload_n 0, 1) := by decide +kernel
theorem d_Table_release_18 : decode prog_7_method_10_code 18 = .ok (.iload_n 2, 1) := by decide +kernel
theorem d_Table_release_19 : decode prog_7_method_10_code 19 = .ok (.invokevirtual 25, 3) := by decide +kernel
theorem d_Table_release_22 : decode prog_7_method_10_code 22 = .ok (.istore 4, 2) := by decide +kernel
theorem d_Table_release_24 : decode prog_7_method_10_code 24 = .ok (.aload_n 0, 1) := by decide +kernel
theorem d_Table_release_25 : decode prog_7_method_10_code 25 = .ok (.iload_n 2, 1) := by decide +kernel
theorem d_Table_release_26 : decode prog_7_method_10_code 26 = .ok (.iconst 0, 1) := by decide +kernel
theorem d_Table_release_27 : decode prog_7_method_10_code 27 = .ok (.invokevirtual 37, 3) := by decide +kernel
theorem d_Table_release_30 : decode prog_7_method_10_code 30 = .ok (.iload 4, 2) := by decide +kernel
theorem d_Table_release_32 : decode prog_7_method_10_code 32 = .ok (.istore_n 2, 1) := by decide +kernel
theorem d_Table_release_33 : decode prog_7_method_10_code 33 = .ok (.iinc 3 1, 3) := by decide +kernel
theorem d_Table_release_36 : decode prog_7_method_10_code 36 = .ok (.goto (-32), 3) := by decide +kernel
theorem d_Table_release_39 : decode prog_7_method_10_code 39 = .ok (.return_, 1) := by decide +kernel
theorem d_V_delete_0 : decode prog_1_method_4_code 0 = .ok (.aload_n 0, 1) := by decide +kernel
theorem d_V_delete_1 : decode prog_1_method_4_code 1 = .ok (.invokevirtual 70, 3) := by decide +kernel
theorem d_V_delete_4 : decode prog_1_method_4_code 4 = .ok (.aload_n 0, 1) := by decide +kernel
theorem d_V_delete_5 : decode prog_1_method_4_code 5 = .ok (.getfield 58, 3) := by decide +kernel
theorem d_V_delete_8 : decode prog_1_method_4_code 8 = .ok (.aload_n 0, 1) := by decide +kernel
theorem d_V_delete_9 : decode prog_1_method_4_code 9 = .ok (.getfield 12, 3) := by decide +kernel
theorem d_V_delete_12 : decode prog_1_method_4_code 12 = .ok (.invokevirtual 73, 3) := by decide +kernel
theorem d_V_delete_15 : decode prog_1_method_4_code 15 = .ok (.aload_n 0, 1) := by decide +kernel
theorem d_V_delete_16 : decode prog_1_method_4_code 16 = .ok (.getfield 39, 3) := by decide +kernel
theorem d_V_delete_19 : decode prog_1_method_4_code 19 = .ok (.aload_n 0, 1) := by decide +kernel
theorem d_V_delete_20 : decode prog_1_method_4_code 20 = .ok (.getfield 12, 3) := by decide +kernel
theorem d_V_delete_23 : decode prog_1_method_4_code 23 = .ok (.getfield 87, 3) := by decide +kernel
theorem d_V_delete_26 : decode prog_1_method_4_code 26 = .ok (.invokevirtual 91, 3) := by decide +kernel
theorem d_V_delete_29 : decode prog_1_method_4_code 29 = .ok (.aload_n 0, 1) := by decide +kernel
theorem d_V_delete_30 : decode prog_1_method_4_code 30 = .ok (.getfield 39, 3) := by decide +kernel
theorem d_V_delete_33 : decode prog_1_method_4_code 33 = .ok (.aload_n 0, 1) := by decide +kernel
theorem d_V_delete_34 : decode prog_1_method_4_code 34 = .ok (.getfield 58, 3) := by decide +kernel
theorem d_V_delete_37 : decode prog_1_method_4_code 37 = .ok (.iconst 0, 1) := by decide +kernel
theorem d_V_delete_38 : decode prog_1_method_4_code 38 = .ok (.invokevirtual 98, 3) := by decide +kernel
theorem d_V_delete_41 : decode prog_1_method_4_code 41 = .ok (.istore_n 1, 1) := by decide +kernel
theorem d_V_delete_42 : decode prog_1_method_4_code 42 = .ok (.iload_n 1, 1) := by decide +kernel
theorem d_V_delete_43 : decode prog_1_method_4_code 43 = .ok (.iconst (-1), 1) := by decide +kernel
theorem d_V_delete_44 : decode prog_1_method_4_code 44 = .ok (.if_icmp .ne 13, 3) := by decide +kernel
theorem d_V_delete_47 : decode prog_1_method_4_code 47 = .ok (.new 128, 3) := by decide +kernel
theorem d_V_delete_50 : decode prog_1_method_4_code 50 = .ok (.dup, 1) := by decide +kernel
theorem d_V_delete_51 : decode prog_1_method_4_code 51 = .ok (.ldc 130, 2) := by decide +kernel
theorem d_V_delete_53 : decode prog_1_method_4_code 53 = .ok (.invokespecial 132, 3) := by decide +kernel
theorem d_V_delete_56 : decode prog_1_method_4_code 56 = .ok (.athrow, 1) := by decide +kernel
theorem d_V_delete_57 : decode prog_1_method_4_code 57 = .ok (.aload_n 0, 1) := by decide +kernel
theorem d_V_delete_58 : decode prog_1_method_4_code 58 = .ok (.iload_n 1, 1) := by decide +kernel
theorem d_V_delete_59 : decode prog_1_method_4_code 59 = .ok (.invokevirtual 133, 3) := by decide +kernel
theorem d_V_delete_62 : decode prog_1_method_4_code 62 = .ok (.ifCond .ne 13, 3) := by decide +kernel
theorem d_V_delete_65 : decode prog_1_method_4_code 65 = .ok (.new 106, 3) := by decide +kernel
theorem d_V_delete_68 : decode prog_1_method_4_code 68 = .ok (.dup, 1) := by decide +kernel
theorem d_V_delete_69 : decode prog_1_method_4_code 69 = .ok (.ldc 137, 2) := by decide +kernel
theorem d_V_delete_71 : decode prog_1_method_4_code 71 = .ok (.invokespecial 110, 3) := by decide +kernel
theorem d_V_delete_74 : decode prog_1_method_4_code 74 = .ok (.athrow, 1) := by decide +kernel
theorem d_V_delete_75 : decode prog_1_method_4_code 75 = .ok (.aload_n 0, 1) := by decide +kernel
theorem d_V_delete_76 : decode prog_1_method_4_code 76 = .ok (.getfield 39, 3) := by decide +kernel
theorem d_V_delete_79 : decode prog_1_method_4_code 79 = .ok (.iload_n 1, 1) := by decide +kernel
theorem d_V_delete_80 : decode prog_1_method_4_code 80 = .ok (.invokevirtual 139, 3) := by decide +kernel
theorem d_V_delete_83 : decode prog_1_method_4_code 83 = .ok (.aload_n 0, 1) := by decide +kernel
theorem d_V_delete_84 : decode prog_1_method_4_code 84 = .ok (.getfield 30, 3) := by decide +kernel
theorem d_V_delete_87 : decode prog_1_method_4_code 87 = .ok (.aload_n 0, 1) := by decide +kernel
theorem d_V_delete_88 : decode prog_1_method_4_code 88 = .ok (.getfield 39, 3) := by decide +kernel
theorem d_V_delete_91 : decode prog_1_method_4_code 91 = .ok (.iload_n 1, 1) := by decide +kernel
theorem d_V_delete_92 : decode prog_1_method_4_code 92 = .ok (.invokevirtual 142, 3) := by decide +kernel
theorem d_V_delete_95 : decode prog_1_method_4_code 95 = .ok (.invokevirtual 145, 3) := by decide +kernel
theorem d_V_delete_98 : decode prog_1_method_4_code 98 = .ok (.return_, 1) := by decide +kernel
theorem d_Ses_goToRoot_0 : decode prog_6_method_3_code 0 = .ok (.aload_n 0, 1) := by decide +kernel
theorem d_Ses_goToRoot_1 : decode prog_6_method_3_code 1 = .ok (.iconst 2, 1) := by decide +kernel
theorem d_Ses_goToRoot_2 : decode prog_6_method_3_code 2 = .ok (.putfield 29, 3) := by decide +kernel
theorem d_Ses_goToRoot_5 : decode prog_6_method_3_code 5 = .ok (.aload_n 0, 1) := by decide +kernel
theorem d_Ses_goToRoot_6 : decode prog_6_method_3_code 6 = .ok (.iconst 1, 1) := by decide +kernel
theorem d_Ses_goToRoot_7 : decode prog_6_method_3_code 7 = .ok (.putfield 32, 3) := by decide +kernel
theorem d_Ses_goToRoot_10 : decode prog_6_method_3_code 10 = .ok (.return_, 1) := by decide +kernel
theorem d_Ses_goDown_0 : decode prog_6_method_4_code 0 = .ok (.aload_n 0, 1) := by decide +kernel
theorem d_Ses_goDown_1 : decode prog_6_method_4_code 1 = .ok (.iload_n 1, 1) := by decide +kernel
theorem d_Ses_goDown_2 : decode prog_6_method_4_code 2 = .ok (.putfield 29, 3) := by decide +kernel
theorem d_Ses_goDown_5 : decode prog_6_method_4_code 5 = .ok (.aload_n 0, 1) := by decide +kernel
theorem d_Ses_goDown_6 : decode prog_6_method_4_code 6 = .ok (.dup, 1) := by decide +kernel
theorem d_Ses_goDown_7 : decode prog_6_method_4_code 7 = .ok (.getfield 32, 3) := by decide +kernel
theorem d_Ses_goDown_10 : decode prog_6_method_4_code 10 = .ok (.iconst 1, 1) := by decide +kernel
theorem d_Ses_goDown_11 : decode prog_6_method_4_code 11 = .ok (.iadd, 1) := by decide +kernel
theorem d_Ses_goDown_12 : decode prog_6_method_4_code 12 = .ok (.putfield 32, 3) := by decide +kernel
theorem d_Ses_goDown_15 : decode prog_6_method_4_code 15 = .ok (.return_, 1) := by decide +kernel
theorem d_V_enter_0 : decode prog_1_method_5_code 0 = .ok (.aload_n 0, 1) := by decide +kernel
theorem d_V_enter_1 : decode prog_1_method_5_code 1 = .ok (.invokevirtual 70, 3) := by decide +kernel
theorem d_V_enter_4 : decode prog_1_method_5_code 4 = .ok (.aload_n 0, 1) := by decide +kernel
theorem d_V_enter_5 : decode prog_1_method_5_code 5 = .ok (.getfield 58, 3) := by decide +kernel
theorem d_V_enter_8 : decode prog_1_method_5_code 8 = .ok (.aload_n 0, 1) := by decide +kernel
theorem d_V_enter_9 : decode prog_1_method_5_code 9 = .ok (.getfield 12, 3) := by decide +kernel
theorem d_V_enter_12 : decode prog_1_method_5_code 12 = .ok (.invokevirtual 73, 3) := by decide +kernel
theorem d_V_enter_15 : decode prog_1_method_5_code 15 = .ok (.aload_n 0, 1) := by decide +kernel
theorem d_V_enter_16 : decode prog_1_method_5_code 16 = .ok (.getfield 58, 3) := by decide +kernel
theorem d_V_enter_19 : decode prog_1_method_5_code 19 = .ok (.getfield 148, 3) := by decide +kernel
theorem d_V_enter_22 : decode prog_1_method_5_code 22 = .ok (.ifCond .ne 11, 3) := by decide +kernel
theorem d_V_enter_25 : decode prog_1_method_5_code 25 = .ok (.aload_n 0, 1) := by decide +kernel
theorem d_V_enter_26 : decode prog_1_method_5_code 26 = .ok (.getfield 12, 3) := by decide +kernel
theorem d_V_enter_29 : decode prog_1_method_5_code 29 = .ok (.invokevirtual 151, 3) := by decide +kernel
theorem d_V_enter_32 : decode prog_1_method_5_code 32 = .ok (.return_, 1) := by decide +kernel
theorem d_V_enter_33 : decode prog_1_method_5_code 33 = .ok (.aload_n 0, 1) := by decide +kernel
theorem d_V_enter_34 : decode prog_1_method_5_code 34 = .ok (.getfield 39, 3) := by decide +kernel
theorem d_V_enter_37 : decode prog_1_method_5_code 37 = .ok (.aload_n 0, 1) := by decide +kernel
theorem d_V_enter_38 : decode prog_1_method_5_code 38 = .ok (.getfield 12, 3) := by decide +kernel
theorem d_V_enter_41 : decode prog_1_method_5_code 41 = .ok (.getfield 87, 3) := by decide +kernel
theorem d_V_enter_44 : decode prog_1_method_5_code 44 = .ok (.invokevirtual 91, 3) := by decide +kernel
theorem d_V_enter_47 : decode prog_1_method_5_code 47 = .ok (.aload_n 0, 1) := by decide +kernel
theorem d_V_enter_48 : decode prog_1_method_5_code 48 = .ok (.getfield 39, 3) := by decide +kernel
theorem d_V_enter_51 : decode prog_1_method_5_code 51 = .ok (.aload_n 0, 1) := by decide +kernel
theorem d_V_enter_52 : decode prog_1_method_5_code 52 = .ok (.getfield 58, 3) := by decide +kernel
theorem d_V_enter_55 : decode prog_1_method_5_code 55 = .ok (.iconst 2, 1) := by decide +kernel
theorem d_V_enter_56 : decode prog_1_method_5_code 56 = .ok (.invokevirtual 98, 3) := by decide +kernel
theorem d_V_enter_59 : decode prog_1_method_5_code 59 = .ok (.istore_n 1, 1) := by decide +kernel
theorem d_V_enter_60 : decode prog_1_method_5_code 60 = .ok (.iload_n 1, 1) := by decide +kernel
theorem d_V_enter_61 : decode prog_1_method_5_code 61 = .ok (.iconst (-1), 1) := by decide +kernel
theorem d_V_enter_62 : decode prog_1_method_5_code 62 = .ok (.if_icmp .ne 13, 3) := by decide +kernel
theorem d_V_enter_65 : decode prog_1_method_5_code 65 = .ok (.new 128, 3) := by decide +kernel
theorem d_V_enter_68 : decode prog_1_method_5_code 68 = .ok (.dup, 1) := by decide +kernel
theorem d_V_enter_69 : decode prog_1_method_5_code 69 = .ok (.ldc 154, 2) := by decide +kernel
theorem d_V_enter_71 : decode prog_1_method_5_code 71 = .ok (.invokespecial 132, 3) := by decide +kernel
theorem d_V_enter_74 : decode prog_1_method_5_code 74 = .ok (.athrow, 1) := by decide +kernel
theorem d_V_enter_75 : decode prog_1_method_5_code 75 = .ok (.aload_n 0, 1) := by decide +kernel
theorem d_V_enter_76 : decode prog_1_method_5_code 76 = .ok (.getfield 12, 3) := by decide +kernel
theorem d_V_enter_79 : decode prog_1_method_5_code 79 = .ok (.aload_n 0, 1) := by decide +kernel
theorem d_V_enter_80 : decode prog_1_method_5_code 80 = .ok (.getfield 39, 3) := by decide +kernel
theorem d_V_enter_83 : decode prog_1_method_5_code 83 = .ok (.iload_n 1, 1) := by decide +kernel
theorem d_V_enter_84 : decode prog_1_method_5_code 84 = .ok (.invokevirtual 142, 3) := by decide +kernel
theorem d_V_enter_87 : decode prog_1_method_5_code 87 = .ok (.invokevirtual 156, 3) := by decide +kernel
theorem d_V_enter_90 : decode prog_1_method_5_code 90 = .ok (.return_, 1) := by decide +kernel
theorem d_Ses_leastFreeHandle_0 : decode prog_6_method_7_code 0 = .ok (.iconst 0, 1) := by decide +kernel
theorem d_Ses_leastFreeHandle_1 : decode prog_6_method_7_code 1 = .ok (.istore_n 1, 1) := by decide +kernel
theorem d_Ses_leastFreeHandle_2 : decode prog_6_method_7_code 2 = .ok (.iload_n 1, 1) := by decide +kernel
theorem d_Ses_leastFreeHandle_3 : decode prog_6_method_7_code 3 = .ok (.iconst 4, 1) := by decide +kernel
theorem d_Ses_leastFreeHandle_4 : decode prog_6_method_7_code 4 = .ok (.if_icmp .ge 21, 3) := by decide +kernel
theorem d_Ses_leastFreeHandle_7 : decode prog_6_method_7_code 7 = .ok (.aload_n 0, 1) := by decide +kernel
theorem d_Ses_leastFreeHandle_8 : decode prog_6_method_7_code 8 = .ok (.getfield 15, 3) := by decide +kernel
theorem d_Ses_leastFreeHandle_11 : decode prog_6_method_7_code 11 = .ok (.iload_n 1, 1) := by decide +kernel
theorem d_Ses_leastFreeHandle_12 : decode prog_6_method_7_code 12 = .ok (.iaload, 1) := by decide +kernel
theorem d_Ses_leastFreeHandle_13 : decode prog_6_method_7_code 13 = .ok (.iconst (-1), 1) := by decide +kernel
theorem d_Ses_leastFreeHandle_14 : decode prog_6_method_7_code 14 = .ok (.if_icmp .ne 5, 3) := by decide +kernel
theorem d_Ses_leastFreeHandle_17 : decode prog_6_method_7_code 17 = .ok (.iload_n 1, 1) := by decide +kernel
theorem d_Ses_leastFreeHandle_18 : decode prog_6_method_7_code 18 = .ok (.ireturn, 1) := by decide +kernel
theorem d_Ses_leastFreeHandle_19 : decode prog_6_method_7_code 19 = .ok (.iinc 1 1, 3) := by decide +kernel
theorem d_Ses_leastFreeHandle_22 : decode prog_6_method_7_code 22 = .ok (.goto (-20), 3) := by decide +kernel
theorem d_Ses_leastFreeHandle_25 : decode prog_6_method_7_code 25 = .ok (.iconst (-1), 1) := by decide +kernel
theorem d_Ses_leastFreeHandle_26 : decode prog_6_method_7_code 26 = .ok (.ireturn, 1) := by decide +kernel
theorem d_Ses_hold_0 : decode prog_6_method_9_code 0 = .ok (.iload_n 1, 1) := by decide +kernel
theorem d_Ses_hold_1 : decode prog_6_method_9_code 1 = .ok (.ifCond .lt 22, 3) := by decide +kernel
theorem d_Ses_hold_4 : decode prog_6_method_9_code 4 = .ok (.iload_n 1, 1) := by decide +kernel
theorem d_Ses_hold_5 : decode prog_6_method_9_code 5 = .ok (.iconst 4, 1) := by decide +kernel
theorem d_Ses_hold_6 : decode prog_6_method_9_code 6 = .ok (.if_icmp .ge 17, 3) := by decide +kernel
theorem d_Ses_hold_9 : decode prog_6_method_9_code 9 = .ok (.aload_n 0, 1) := by decide +kernel
theorem d_Ses_hold_10 : decode prog_6_method_9_code 10 = .ok (.getfield 15, 3) := by decide +kernel
theorem d_Ses_hold_13 : decode prog_6_method_9_code 13 = .ok (.iload_n 1, 1) := by decide +kernel
theorem d_Ses_hold_14 : decode prog_6_method_9_code 14 = .ok (.iload_n 2, 1) := by decide +kernel
theorem d_Ses_hold_15 : decode prog_6_method_9_code 15 = .ok (.iastore, 1) := by decide +kernel
theorem d_Ses_hold_16 : decode prog_6_method_9_code 16 = .ok (.aload_n 0, 1) := by decide +kernel
theorem d_Ses_hold_17 : decode prog_6_method_9_code 17 = .ok (.getfield 19, 3) := by decide +kernel
theorem d_Ses_hold_20 : decode prog_6_method_9_code 20 = .ok (.iload_n 1, 1) := by decide +kernel
theorem d_Ses_hold_21 : decode prog_6_method_9_code 21 = .ok (.iconst 0, 1) := by decide +kernel
theorem d_Ses_hold_22 : decode prog_6_method_9_code 22 = .ok (.iastore, 1) := by decide +kernel
theorem d_Ses_hold_23 : decode prog_6_method_9_code 23 = .ok (.return_, 1) := by decide +kernel
theorem d_V_open_0 : decode prog_1_method_6_code 0 = .ok (.aload_n 0, 1) := by decide +kernel
theorem d_V_open_1 : decode prog_1_method_6_code 1 = .ok (.invokevirtual 70, 3) := by decide +kernel
theorem d_V_open_4 : decode prog_1_method_6_code 4 = .ok (.aload_n 0, 1) := by decide +kernel
theorem d_V_open_5 : decode prog_1_method_6_code 5 = .ok (.getfield 58, 3) := by decide +kernel
theorem d_V_open_8 : decode prog_1_method_6_code 8 = .ok (.aload_n 0, 1) := by decide +kernel
theorem d_V_open_9 : decode prog_1_method_6_code 9 = .ok (.getfield 12, 3) := by decide +kernel
theorem d_V_open_12 : decode prog_1_method_6_code 12 = .ok (.invokevirtual 73, 3) := by decide +kernel
theorem d_V_open_15 : decode prog_1_method_6_code 15 = .ok (.aload_n 0, 1) := by decide +kernel
theorem d_V_open_16 : decode prog_1_method_6_code 16 = .ok (.getfield 39, 3) := by decide +kernel
theorem d_V_open_19 : decode prog_1_method_6_code 19 = .ok (.aload_n 0, 1) := by decide +kernel
theorem d_V_open_20 : decode prog_1_method_6_code 20 = .ok (.getfield 12, 3) := by decide +kernel
theorem d_V_open_23 : decode prog_1_method_6_code 23 = .ok (.getfield 87, 3) := by decide +kernel
theorem d_V_open_26 : decode prog_1_method_6_code 26 = .ok (.invokevirtual 91, 3) := by decide +kernel
theorem d_V_open_29 : decode prog_1_method_6_code 29 = .ok (.aload_n 0, 1) := by decide +kernel
theorem d_V_open_30 : decode prog_1_method_6_code 30 = .ok (.getfield 39, 3) := by decide +kernel
theorem d_V_open_33 : decode prog_1_method_6_code 33 = .ok (.aload_n 0, 1) := by decide +kernel
theorem d_V_open_34 : decode prog_1_method_6_code 34 = .ok (.getfield 58, 3) := by decide +kernel
theorem d_V_open_37 : decode prog_1_method_6_code 37 = .ok (.iconst 1, 1) := by decide +kernel
theorem d_V_open_38 : decode prog_1_method_6_code 38 = .ok (.invokevirtual 98, 3) := by decide +kernel
theorem d_V_open_41 : decode prog_1_method_6_code 41 = .ok (.istore_n 1, 1) := by decide +kernel
theorem d_V_open_42 : decode prog_1_method_6_code 42 = .ok (.iload_n 1, 1) := by decide +kernel
theorem d_V_open_43 : decode prog_1_method_6_code 43 = .ok (.iconst (-1), 1) := by decide +kernel
theorem d_V_open_44 : decode prog_1_method_6_code 44 = .ok (.if_icmp .ne 13, 3) := by decide +kernel
theorem d_V_open_47 : decode prog_1_method_6_code 47 = .ok (.new 128, 3) := by decide +kernel
theorem d_V_open_50 : decode prog_1_method_6_code 50 = .ok (.dup, 1) := by decide +kernel
theorem d_V_open_51 : decode prog_1_method_6_code 51 = .ok (.ldc 159, 2) := by decide +kernel
theorem d_V_open_53 : decode prog_1_method_6_code 53 = .ok (.invokespecial 132, 3) := by decide +kernel
theorem d_V_open_56 : decode prog_1_method_6_code 56 = .ok (.athrow, 1) := by decide +kernel
theorem d_V_open_57 : decode prog_1_method_6_code 57 = .ok (.aload_n 0, 1) := by decide +kernel
theorem d_V_open_58 : decode prog_1_method_6_code 58 = .ok (.getfield 12, 3) := by decide +kernel
theorem d_V_open_61 : decode prog_1_method_6_code 61 = .ok (.invokevirtual 161, 3) := by decide +kernel
theorem d_V_open_64 : decode prog_1_method_6_code 64 = .ok (.istore_n 2, 1) := by decide +kernel
theorem d_V_open_65 : decode prog_1_method_6_code 65 = .ok (.iload_n 2, 1) := by decide +kernel
theorem d_V_open_66 : decode prog_1_method_6_code 66 = .ok (.iconst (-1), 1) := by decide +kernel
theorem d_V_open_67 : decode prog_1_method_6_code 67 = .ok (.if_icmp .ne 13, 3) := by decide +kernel
theorem d_V_open_70 : decode prog_1_method_6_code 70 = .ok (.new 106, 3) := by decide +kernel
theorem d_V_open_73 : decode prog_1_method_6_code 73 = .ok (.dup, 1) := by decide +kernel
theorem d_V_open_74 : decode prog_1_method_6_code 74 = .ok (.ldc 164, 2) := by decide +kernel
theorem d_V_open_76 : decode prog_1_method_6_code 76 = .ok (.invokespecial 110, 3) := by decide +kernel
theorem d_V_open_79 : decode prog_1_method_6_code 79 = .ok (.athrow, 1) := by decide +kernel
theorem d_V_open_80 : decode prog_1_method_6_code 80 = .ok (.aload_n 0, 1) := by decide +kernel
theorem d_V_open_81 : decode prog_1_method_6_code 81 = .ok (.getfield 12, 3) := by decide +kernel
theorem d_V_open_84 : decode prog_1_method_6_code 84 = .ok (.iload_n 2, 1) := by decide +kernel
theorem d_V_open_85 : decode prog_1_method_6_code 85 = .ok (.aload_n 0, 1) := by decide +kernel
theorem d_V_open_86 : decode prog_1_method_6_code 86 = .ok (.getfield 39, 3) := by decide +kernel
theorem d_V_open_89 : decode prog_1_method_6_code 89 = .ok (.iload_n 1, 1) := by decide +kernel
theorem d_V_open_90 : decode prog_1_method_6_code 90 = .ok (.invokevirtual 166, 3) := by decide +kernel
theorem d_V_open_93 : decode prog_1_method_6_code 93 = .ok (.invokevirtual 169, 3) := by decide +kernel
theorem d_V_open_96 : decode prog_1_method_6_code 96 = .ok (.iload_n 2, 1) := by decide +kernel
theorem d_V_open_97 : decode prog_1_method_6_code 97 = .ok (.ireturn, 1) := by decide +kernel
theorem d_Ses_isOpen_0 : decode prog_6_method_6_code 0 = .ok (.iload_n 1, 1) := by decide +kernel
theorem d_Ses_isOpen_1 : decode prog_6_method_6_code 1 = .ok (.ifCond .lt 22, 3) := by decide +kernel
theorem d_Ses_isOpen_4 : decode prog_6_method_6_code 4 = .ok (.iload_n 1, 1) := by decide +kernel
theorem d_Ses_isOpen_5 : decode prog_6_method_6_code 5 = .ok (.iconst 4, 1) := by decide +kernel
theorem d_Ses_isOpen_6 : decode prog_6_method_6_code 6 = .ok (.if_icmp .ge 17, 3) := by decide +kernel
theorem d_Ses_isOpen_9 : decode prog_6_method_6_code 9 = .ok (.aload_n 0, 1) := by decide +kernel
theorem d_Ses_isOpen_10 : decode prog_6_method_6_code 10 = .ok (.getfield 15, 3) := by decide +kernel
theorem d_Ses_isOpen_13 : decode prog_6_method_6_code 13 = .ok (.iload_n 1, 1) := by decide +kernel
theorem d_Ses_isOpen_14 : decode prog_6_method_6_code 14 = .ok (.iaload, 1) := by decide +kernel
theorem d_Ses_isOpen_15 : decode prog_6_method_6_code 15 = .ok (.iconst (-1), 1) := by decide +kernel
theorem d_Ses_isOpen_16 : decode prog_6_method_6_code 16 = .ok (.if_icmp .eq 7, 3) := by decide +kernel
theorem d_Ses_isOpen_19 : decode prog_6_method_6_code 19 = .ok (.iconst 1, 1) := by decide +kernel
theorem d_Ses_isOpen_20 : decode prog_6_method_6_code 20 = .ok (.goto 4, 3) := by decide +kernel
theorem d_Ses_isOpen_23 : decode prog_6_method_6_code 23 = .ok (.iconst 0, 1) := by decide +kernel
theorem d_Ses_isOpen_24 : decode prog_6_method_6_code 24 = .ok (.ireturn, 1) := by decide +kernel
theorem d_Ses_drop_0 : decode prog_6_method_10_code 0 = .ok (.iload_n 1, 1) := by decide +kernel
theorem d_Ses_drop_1 : decode prog_6_method_10_code 1 = .ok (.ifCond .lt 15, 3) := by decide +kernel
theorem d_Ses_drop_4 : decode prog_6_method_10_code 4 = .ok (.iload_n 1, 1) := by decide +kernel
theorem d_Ses_drop_5 : decode prog_6_method_10_code 5 = .ok (.iconst 4, 1) := by decide +kernel
theorem d_Ses_drop_6 : decode prog_6_method_10_code 6 = .ok (.if_icmp .ge 10, 3) := by decide +kernel
theorem d_Ses_drop_9 : decode prog_6_method_10_code 9 = .ok (.aload_n 0, 1) := by decide +kernel
theorem d_Ses_drop_10 : decode prog_6_method_10_code 10 = .ok (.getfield 15, 3) := by decide +kernel
theorem d_Ses_drop_13 : decode prog_6_method_10_code 13 = .ok (.iload_n 1, 1) := by decide +kernel
theorem d_Ses_drop_14 : decode prog_6_method_10_code 14 = .ok (.iconst (-1), 1) := by decide +kernel
theorem d_Ses_drop_15 : decode prog_6_method_10_code 15 = .ok (.iastore, 1) := by decide +kernel
theorem d_Ses_drop_16 : decode prog_6_method_10_code 16 = .ok (.return_, 1) := by decide +kernel
theorem d_V_close_0 : decode prog_1_method_7_code 0 = .ok (.aload_n 0, 1) := by decide +kernel
theorem d_V_close_1 : decode prog_1_method_7_code 1 = .ok (.getfield 12, 3) := by decide +kernel
theorem d_V_close_4 : decode prog_1_method_7_code 4 = .ok (.iload_n 1, 1) := by decide +kernel
theorem d_V_close_5 : decode prog_1_method_7_code 5 = .ok (.invokevirtual 173, 3) := by decide +kernel
theorem d_V_close_8 : decode prog_1_method_7_code 8 = .ok (.ifCond .ne 5, 3) := by decide +kernel
theorem d_V_close_11 : decode prog_1_method_7_code 11 = .ok (.iconst 0, 1) := by decide +kernel
theorem d_V_close_12 : decode prog_1_method_7_code 12 = .ok (.ireturn, 1) := by decide +kernel
theorem d_V_close_13 : decode prog_1_method_7_code 13 = .ok (.aload_n 0, 1) := by decide +kernel
theorem d_V_close_14 : decode prog_1_method_7_code 14 = .ok (.getfield 12, 3) := by decide +kernel
theorem d_V_close_17 : decode prog_1_method_7_code 17 = .ok (.iload_n 1, 1) := by decide +kernel
theorem d_V_close_18 : decode prog_1_method_7_code 18 = .ok (.invokevirtual 176, 3) := by decide +kernel
theorem d_V_close_21 : decode prog_1_method_7_code 21 = .ok (.iconst 1, 1) := by decide +kernel
theorem d_V_close_22 : decode prog_1_method_7_code 22 = .ok (.ireturn, 1) := by decide +kernel
theorem d_Ses_entryOf_0 : decode prog_6_method_12_code 0 = .ok (.iload_n 1, 1) := by decide +kernel
theorem d_Ses_entryOf_1 : decode prog_6_method_12_code 1 = .ok (.ifCond .lt 17, 3) := by decide +kernel
theorem d_Ses_entryOf_4 : decode prog_6_method_12_code 4 = .ok (.iload_n 1, 1) := by decide +kernel
theorem d_Ses_entryOf_5 : decode prog_6_method_12_code 5 = .ok (.iconst 4, 1) := by decide +kernel
theorem d_Ses_entryOf_6 : decode prog_6_method_12_code 6 = .ok (.if_icmp .ge 12, 3) := by decide +kernel
theorem d_Ses_entryOf_9 : decode prog_6_method_12_code 9 = .ok (.aload_n 0, 1) := by decide +kernel
theorem d_Ses_entryOf_10 : decode prog_6_method_12_code 10 = .ok (.getfield 15, 3) := by decide +kernel
theorem d_Ses_entryOf_13 : decode prog_6_method_12_code 13 = .ok (.iload_n 1, 1) := by decide +kernel
theorem d_Ses_entryOf_14 : decode prog_6_method_12_code 14 = .ok (.iaload, 1) := by decide +kernel
theorem d_Ses_entryOf_15 : decode prog_6_method_12_code 15 = .ok (.goto 4, 3) := by decide +kernel
theorem d_Ses_entryOf_18 : decode prog_6_method_12_code 18 = .ok (.iconst (-1), 1) := by decide +kernel
theorem d_Ses_entryOf_19 : decode prog_6_method_12_code 19 = .ok (.ireturn, 1) := by decide +kernel
theorem d_V_sizeOfFile_0 : decode prog_1_method_22_code 0 = .ok (.aload_n 0, 1) := by decide +kernel
theorem d_V_sizeOfFile_1 : decode prog_1_method_22_code 1 = .ok (.getfield 21, 3) := by decide +kernel
theorem d_V_sizeOfFile_4 : decode prog_1_method_22_code 4 = .ok (.aload_n 0, 1) := by decide +kernel
theorem d_V_sizeOfFile_5 : decode prog_1_method_22_code 5 = .ok (.getfield 12, 3) := by decide +kernel
theorem d_V_sizeOfFile_8 : decode prog_1_method_22_code 8 = .ok (.iload_n 1, 1) := by decide +kernel
theorem d_V_sizeOfFile_9 : decode prog_1_method_22_code 9 = .ok (.invokevirtual 190, 3) := by decide +kernel
theorem d_V_sizeOfFile_12 : decode prog_1_method_22_code 12 = .ok (.bipush 10, 2) := by decide +kernel
theorem d_V_sizeOfFile_14 : decode prog_1_method_22_code 14 = .ok (.iadd, 1) := by decide +kernel
theorem d_V_sizeOfFile_15 : decode prog_1_method_22_code 15 = .ok (.invokevirtual 193, 3) := by decide +kernel
theorem d_V_sizeOfFile_18 : decode prog_1_method_22_code 18 = .ok (.ireturn, 1) := by decide +kernel
theorem d_Ses_moveTo_0 : decode prog_6_method_11_code 0 = .ok (.iload_n 1, 1) := by decide +kernel
theorem d_Ses_moveTo_1 : decode prog_6_method_11_code 1 = .ok (.ifCond .lt 15, 3) := by decide +kernel
theorem d_Ses_moveTo_4 : decode prog_6_method_11_code 4 = .ok (.iload_n 1, 1) := by decide +kernel
theorem d_Ses_moveTo_5 : decode prog_6_method_11_code 5 = .ok (.iconst 4, 1) := by decide +kernel
theorem d_Ses_moveTo_6 : decode prog_6_method_11_code 6 = .ok (.if_icmp .ge 10, 3) := by decide +kernel
theorem d_Ses_moveTo_9 : decode prog_6_method_11_code 9 = .ok (.aload_n 0, 1) := by decide +kernel
theorem d_Ses_moveTo_10 : decode prog_6_method_11_code 10 = .ok (.getfield 19, 3) := by decide +kernel
theorem d_Ses_moveTo_13 : decode prog_6_method_11_code 13 = .ok (.iload_n 1, 1) := by decide +kernel
theorem d_Ses_moveTo_14 : decode prog_6_method_11_code 14 = .ok (.iload_n 2, 1) := by decide +kernel
theorem d_Ses_moveTo_15 : decode prog_6_method_11_code 15 = .ok (.iastore, 1) := by decide +kernel
theorem d_Ses_moveTo_16 : decode prog_6_method_11_code 16 = .ok (.return_, 1) := by decide +kernel
theorem d_V_seek_0 : decode prog_1_method_8_code 0 = .ok (.aload_n 0, 1) := by decide +kernel
theorem d_V_seek_1 : decode prog_1_method_8_code 1 = .ok (.getfield 12, 3) := by decide +kernel
theorem d_V_seek_4 : decode prog_1_method_8_code 4 = .ok (.iload_n 1, 1) := by decide +kernel
theorem d_V_seek_5 : decode prog_1_method_8_code 5 = .ok (.invokevirtual 173, 3) := by decide +kernel
theorem d_V_seek_8 : decode prog_1_method_8_code 8 = .ok (.ifCond .eq 16, 3) := by decide +kernel
theorem d_V_seek_11 : decode prog_1_method_8_code 11 = .ok (.iload_n 2, 1) := by decide +kernel
theorem d_V_seek_12 : decode prog_1_method_8_code 12 = .ok (.ifCond .lt 12, 3) := by decide +kernel
theorem d_V_seek_15 : decode prog_1_method_8_code 15 = .ok (.iload_n 2, 1) := by decide +kernel
theorem d_V_seek_16 : decode prog_1_method_8_code 16 = .ok (.aload_n 0, 1) := by decide +kernel
theorem d_V_seek_17 : decode prog_1_method_8_code 17 = .ok (.iload_n 1, 1) := by decide +kernel
theorem d_V_seek_18 : decode prog_1_method_8_code 18 = .ok (.invokevirtual 179, 3) := by decide +kernel
theorem d_V_seek_21 : decode prog_1_method_8_code 21 = .ok (.if_icmp .le 5, 3) := by decide +kernel
theorem d_V_seek_24 : decode prog_1_method_8_code 24 = .ok (.iconst 0, 1) := by decide +kernel
theorem d_V_seek_25 : decode prog_1_method_8_code 25 = .ok (.ireturn, 1) := by decide +kernel
theorem d_V_seek_26 : decode prog_1_method_8_code 26 = .ok (.aload_n 0, 1) := by decide +kernel
theorem d_V_seek_27 : decode prog_1_method_8_code 27 = .ok (.getfield 12, 3) := by decide +kernel
theorem d_V_seek_30 : decode prog_1_method_8_code 30 = .ok (.iload_n 1, 1) := by decide +kernel
theorem d_V_seek_31 : decode prog_1_method_8_code 31 = .ok (.iload_n 2, 1) := by decide +kernel
theorem d_V_seek_32 : decode prog_1_method_8_code 32 = .ok (.invokevirtual 182, 3) := by decide +kernel
theorem d_V_seek_35 : decode prog_1_method_8_code 35 = .ok (.iconst 1, 1) := by decide +kernel
theorem d_V_seek_36 : decode prog_1_method_8_code 36 = .ok (.ireturn, 1) := by decide +kernel
theorem d_Ses_positionOf_0 : decode prog_6_method_13_code 0 = .ok (.iload_n 1, 1) := by decide +kernel
theorem d_Ses_positionOf_1 : decode prog_6_method_13_code 1 = .ok (.ifCond .lt 17, 3) := by decide +kernel
theorem d_Ses_positionOf_4 : decode prog_6_method_13_code 4 = .ok (.iload_n 1, 1) := by decide +kernel
theorem d_Ses_positionOf_5 : decode prog_6_method_13_code 5 = .ok (.iconst 4, 1) := by decide +kernel
theorem d_Ses_positionOf_6 : decode prog_6_method_13_code 6 = .ok (.if_icmp .ge 12, 3) := by decide +kernel
theorem d_Ses_positionOf_9 : decode prog_6_method_13_code 9 = .ok (.aload_n 0, 1) := by decide +kernel
theorem d_Ses_positionOf_10 : decode prog_6_method_13_code 10 = .ok (.getfield 19, 3) := by decide +kernel
theorem d_Ses_positionOf_13 : decode prog_6_method_13_code 13 = .ok (.iload_n 1, 1) := by decide +kernel
theorem d_Ses_positionOf_14 : decode prog_6_method_13_code 14 = .ok (.iaload, 1) := by decide +kernel
theorem d_Ses_positionOf_15 : decode prog_6_method_13_code 15 = .ok (.goto 4, 3) := by decide +kernel
theorem d_Ses_positionOf_18 : decode prog_6_method_13_code 18 = .ok (.iconst 0, 1) := by decide +kernel
theorem d_Ses_positionOf_19 : decode prog_6_method_13_code 19 = .ok (.ireturn, 1) := by decide +kernel
theorem d_Table_clusterAt_0 : decode prog_7_method_12_code 0 = .ok (.iload_n 1, 1) := by decide +kernel
theorem d_Table_clusterAt_1 : decode prog_7_method_12_code 1 = .ok (.istore_n 3, 1) := by decide +kernel
theorem d_Table_clusterAt_2 : decode prog_7_method_12_code 2 = .ok (.iconst 0, 1) := by decide +kernel
theorem d_Table_clusterAt_3 : decode prog_7_method_12_code 3 = .ok (.istore 4, 2) := by decide +kernel
theorem d_Table_clusterAt_5 : decode prog_7_method_12_code 5 = .ok (.iload 4, 2) := by decide +kernel
theorem d_Table_clusterAt_7 : decode prog_7_method_12_code 7 = .ok (.iload_n 2, 1) := by decide +kernel
theorem d_Table_clusterAt_8 : decode prog_7_method_12_code 8 = .ok (.if_icmp .ge 29, 3) := by decide +kernel
theorem d_Table_clusterAt_11 : decode prog_7_method_12_code 11 = .ok (.iload 4, 2) := by decide +kernel
theorem d_Table_clusterAt_13 : decode prog_7_method_12_code 13 = .ok (.bipush 64, 2) := by decide +kernel
theorem d_Table_clusterAt_15 : decode prog_7_method_12_code 15 = .ok (.if_icmp .ge 22, 3) := by decide +kernel
theorem d_Table_clusterAt_18 : decode prog_7_method_12_code 18 = .ok (.iload_n 3, 1) := by decide +kernel
theorem d_Table_clusterAt_19 : decode prog_7_method_12_code 19 = .ok (.invokestatic 47, 3) := by decide +kernel
theorem d_Table_clusterAt_22 : decode prog_7_method_12_code 22 = .ok (.ifCond .eq 15, 3) := by decide +kernel
theorem d_Table_clusterAt_25 : decode prog_7_method_12_code 25 = .ok (.aload_n 0, 1) := by decide +kernel
theorem d_Table_clusterAt_26 : decode prog_7_method_12_code 26 = .ok (.iload_n 3, 1) := by decide +kernel
theorem d_Table_clusterAt_27 : decode prog_7_method_12_code 27 = .ok (.invokevirtual 25, 3) := by decide +kernel
theorem d_Table_clusterAt_30 : decode prog_7_method_12_code 30 = .ok (.istore_n 3, 1) := by decide +kernel
theorem d_Table_clusterAt_31 : decode prog_7_method_12_code 31 = .ok (.iinc 4 1, 3) := by decide +kernel
theorem d_Table_clusterAt_34 : decode prog_7_method_12_code 34 = .ok (.goto (-29), 3) := by decide +kernel
theorem d_Table_clusterAt_37 : decode prog_7_method_12_code 37 = .ok (.iload_n 3, 1) := by decide +kernel
theorem d_Table_clusterAt_38 : decode prog_7_method_12_code 38 = .ok (.invokestatic 47, 3) := by decide +kernel
theorem d_Table_clusterAt_41 : decode prog_7_method_12_code 41 = .ok (.ifCond .eq 7, 3) := by decide +kernel
theorem d_Table_clusterAt_44 : decode prog_7_method_12_code 44 = .ok (.iload_n 3, 1) := by decide +kernel
theorem d_Table_clusterAt_45 : decode prog_7_method_12_code 45 = .ok (.goto 4, 3) := by decide +kernel
theorem d_Table_clusterAt_48 : decode prog_7_method_12_code 48 = .ok (.iconst 0, 1) := by decide +kernel
theorem d_Table_clusterAt_49 : decode prog_7_method_12_code 49 = .ok (.ireturn, 1) := by decide +kernel
theorem d_V_addressInChain_0 : decode prog_1_method_23_code 0 = .ok (.aload_n 0, 1) := by decide +kernel
theorem d_V_addressInChain_1 : decode prog_1_method_23_code 1 = .ok (.getfield 30, 3) := by decide +kernel
theorem d_V_addressInChain_4 : decode prog_1_method_23_code 4 = .ok (.iload_n 1, 1) := by decide +kernel
theorem d_V_addressInChain_5 : decode prog_1_method_23_code 5 = .ok (.iload_n 2, 1) := by decide +kernel
theorem d_V_addressInChain_6 : decode prog_1_method_23_code 6 = .ok (.bipush 32, 2) := by decide +kernel
theorem d_V_addressInChain_8 : decode prog_1_method_23_code 8 = .ok (.idiv, 1) := by decide +kernel
theorem d_V_addressInChain_9 : decode prog_1_method_23_code 9 = .ok (.invokevirtual 337, 3) := by decide +kernel
theorem d_V_addressInChain_12 : decode prog_1_method_23_code 12 = .ok (.istore_n 3, 1) := by decide +kernel
theorem d_V_addressInChain_13 : decode prog_1_method_23_code 13 = .ok (.iload_n 3, 1) := by decide +kernel
theorem d_V_addressInChain_14 : decode prog_1_method_23_code 14 = .ok (.invokestatic 340, 3) := by decide +kernel
theorem d_V_addressInChain_17 : decode prog_1_method_23_code 17 = .ok (.bipush 32, 2) := by decide +kernel
theorem d_V_addressInChain_19 : decode prog_1_method_23_code 19 = .ok (.imul, 1) := by decide +kernel
theorem d_V_addressInChain_20 : decode prog_1_method_23_code 20 = .ok (.iload_n 2, 1) := by decide +kernel
theorem d_V_addressInChain_21 : decode prog_1_method_23_code 21 = .ok (.bipush 32, 2) := by decide +kernel
theorem d_V_addressInChain_23 : decode prog_1_method_23_code 23 = .ok (.irem, 1) := by decide +kernel
theorem d_V_addressInChain_24 : decode prog_1_method_23_code 24 = .ok (.iadd, 1) := by decide +kernel
theorem d_V_addressInChain_25 : decode prog_1_method_23_code 25 = .ok (.ireturn, 1) := by decide +kernel
theorem d_V_read_0 : decode prog_1_method_9_code 0 = .ok (.aload_n 0, 1) := by decide +kernel
theorem d_V_read_1 : decode prog_1_method_9_code 1 = .ok (.invokevirtual 70, 3) := by decide +kernel
theorem d_V_read_4 : decode prog_1_method_9_code 4 = .ok (.aload_n 0, 1) := by decide +kernel
theorem d_V_read_5 : decode prog_1_method_9_code 5 = .ok (.getfield 12, 3) := by decide +kernel
theorem d_V_read_8 : decode prog_1_method_9_code 8 = .ok (.iload_n 1, 1) := by decide +kernel
theorem d_V_read_9 : decode prog_1_method_9_code 9 = .ok (.invokevirtual 173, 3) := by decide +kernel
theorem d_V_read_12 : decode prog_1_method_9_code 12 = .ok (.ifCond .eq 14, 3) := by decide +kernel
theorem d_V_read_15 : decode prog_1_method_9_code 15 = .ok (.iload_n 2, 1) := by decide +kernel
theorem d_V_read_16 : decode prog_1_method_9_code 16 = .ok (.iconst 1, 1) := by decide +kernel
theorem d_V_read_17 : decode prog_1_method_9_code 17 = .ok (.if_icmp .lt 9, 3) := by decide +kernel
theorem d_V_read_20 : decode prog_1_method_9_code 20 = .ok (.iload_n 2, 1) := by decide +kernel
theorem d_V_read_21 : decode prog_1_method_9_code 21 = .ok (.bipush 7, 2) := by decide +kernel
theorem d_V_read_23 : decode prog_1_method_9_code 23 = .ok (.if_icmp .le 13, 3) := by decide +kernel
theorem d_V_read_26 : decode prog_1_method_9_code 26 = .ok (.new 80, 3) := by decide +kernel
theorem d_V_read_29 : decode prog_1_method_9_code 29 = .ok (.dup, 1) := by decide +kernel
theorem d_V_read_30 : decode prog_1_method_9_code 30 = .ok (.ldc 185, 2) := by decide +kernel
theorem d_V_read_32 : decode prog_1_method_9_code 32 = .ok (.invokespecial 84, 3) := by decide +kernel
theorem d_V_read_35 : decode prog_1_method_9_code 35 = .ok (.athrow, 1) := by decide +kernel
theorem d_V_read_36 : decode prog_1_method_9_code 36 = .ok (.aload_n 0, 1) := by decide +kernel
theorem d_V_read_37 : decode prog_1_method_9_code 37 = .ok (.getfield 12, 3) := by decide +kernel
theorem d_V_read_40 : decode prog_1_method_9_code 40 = .ok (.iload_n 1, 1) := by decide +kernel
theorem d_V_read_41 : decode prog_1_method_9_code 41 = .ok (.invokevirtual 187, 3) := by decide +kernel
theorem d_V_read_44 : decode prog_1_method_9_code 44 = .ok (.istore_n 3, 1) := by decide +kernel
theorem d_V_read_45 : decode prog_1_method_9_code 45 = .ok (.aload_n 0, 1) := by decide +kernel
theorem d_V_read_46 : decode prog_1_method_9_code 46 = .ok (.getfield 21, 3) := by decide +kernel
theorem d_V_read_49 : decode prog_1_method_9_code 49 = .ok (.aload_n 0, 1) := by decide +kernel
theorem d_V_read_50 : decode prog_1_method_9_code 50 = .ok (.getfield 12, 3) := by decide +kernel
theorem d_V_read_53 : decode prog_1_method_9_code 53 = .ok (.iload_n 1, 1) := by decide +kernel
theorem d_V_read_54 : decode prog_1_method_9_code 54 = .ok (.invokevirtual 190, 3) := by decide +kernel
theorem d_V_read_57 : decode prog_1_method_9_code 57 = .ok (.bipush 8, 2) := by decide +kernel
theorem d_V_read_59 : decode prog_1_method_9_code 59 = .ok (.iadd, 1) := by decide +kernel
theorem d_V_read_60 : decode prog_1_method_9_code 60 = .ok (.invokevirtual 193, 3) := by decide +kernel
theorem d_V_read_63 : decode prog_1_method_9_code 63 = .ok (.istore 4, 2) := by decide +kernel
theorem d_V_read_65 : decode prog_1_method_9_code 65 = .ok (.iload_n 2, 1) := by decide +kernel
theorem d_V_read_66 : decode prog_1_method_9_code 66 = .ok (.aload_n 0, 1) := by decide +kernel
theorem d_V_read_67 : decode prog_1_method_9_code 67 = .ok (.iload_n 1, 1) := by decide +kernel
theorem d_V_read_68 : decode prog_1_method_9_code 68 = .ok (.invokevirtual 179, 3) := by decide +kernel
theorem d_V_read_71 : decode prog_1_method_9_code 71 = .ok (.iload_n 3, 1) := by decide +kernel
theorem d_V_read_72 : decode prog_1_method_9_code 72 = .ok (.isub, 1) := by decide +kernel
theorem d_V_read_73 : decode prog_1_method_9_code 73 = .ok (.invokestatic 196, 3) := by decide +kernel
theorem d_V_read_76 : decode prog_1_method_9_code 76 = .ok (.istore 5, 2) := by decide +kernel
theorem d_V_read_78 : decode prog_1_method_9_code 78 = .ok (.lconst 0, 1) := by decide +kernel
theorem d_V_read_79 : decode prog_1_method_9_code 79 = .ok (.lstore 6, 2) := by decide +kernel
theorem d_V_read_81 : decode prog_1_method_9_code 81 = .ok (.iconst 0, 1) := by decide +kernel
theorem d_V_read_82 : decode prog_1_method_9_code 82 = .ok (.istore 8, 2) := by decide +kernel
theorem d_V_read_84 : decode prog_1_method_9_code 84 = .ok (.iload 8, 2) := by decide +kernel
theorem d_V_read_86 : decode prog_1_method_9_code 86 = .ok (.iload 5, 2) := by decide +kernel
theorem d_V_read_88 : decode prog_1_method_9_code 88 = .ok (.if_icmp .ge 35, 3) := by decide +kernel
theorem d_V_read_91 : decode prog_1_method_9_code 91 = .ok (.lload 6, 2) := by decide +kernel
theorem d_V_read_93 : decode prog_1_method_9_code 93 = .ok (.bipush 8, 2) := by decide +kernel
theorem d_V_read_95 : decode prog_1_method_9_code 95 = .ok (.lshl, 1) := by decide +kernel
theorem d_V_read_96 : decode prog_1_method_9_code 96 = .ok (.aload_n 0, 1) := by decide +kernel
theorem d_V_read_97 : decode prog_1_method_9_code 97 = .ok (.getfield 21, 3) := by decide +kernel
theorem d_V_read_100 : decode prog_1_method_9_code 100 = .ok (.aload_n 0, 1) := by decide +kernel
theorem d_V_read_101 : decode prog_1_method_9_code 101 = .ok (.iload 4, 2) := by decide +kernel
theorem d_V_read_103 : decode prog_1_method_9_code 103 = .ok (.iload_n 3, 1) := by decide +kernel
theorem d_V_read_104 : decode prog_1_method_9_code 104 = .ok (.iload 8, 2) := by decide +kernel
theorem d_V_read_106 : decode prog_1_method_9_code 106 = .ok (.iadd, 1) := by decide +kernel
theorem d_V_read_107 : decode prog_1_method_9_code 107 = .ok (.invokevirtual 202, 3) := by decide +kernel
theorem d_V_read_110 : decode prog_1_method_9_code 110 = .ok (.invokevirtual 205, 3) := by decide +kernel
theorem d_V_read_113 : decode prog_1_method_9_code 113 = .ok (.i2l, 1) := by decide +kernel
theorem d_V_read_114 : decode prog_1_method_9_code 114 = .ok (.lor, 1) := by decide +kernel
theorem d_V_read_115 : decode prog_1_method_9_code 115 = .ok (.lstore 6, 2) := by decide +kernel
theorem d_V_read_117 : decode prog_1_method_9_code 117 = .ok (.iinc 8 1, 3) := by decide +kernel
theorem d_V_read_120 : decode prog_1_method_9_code 120 = .ok (.goto (-36), 3) := by decide +kernel
theorem d_V_read_123 : decode prog_1_method_9_code 123 = .ok (.aload_n 0, 1) := by decide +kernel
theorem d_V_read_124 : decode prog_1_method_9_code 124 = .ok (.getfield 12, 3) := by decide +kernel
theorem d_V_read_127 : decode prog_1_method_9_code 127 = .ok (.iload_n 1, 1) := by decide +kernel
theorem d_V_read_128 : decode prog_1_method_9_code 128 = .ok (.iload_n 3, 1) := by decide +kernel
theorem d_V_read_129 : decode prog_1_method_9_code 129 = .ok (.iload 5, 2) := by decide +kernel
theorem d_V_read_131 : decode prog_1_method_9_code 131 = .ok (.iadd, 1) := by decide +kernel
theorem d_V_read_132 : decode prog_1_method_9_code 132 = .ok (.invokevirtual 182, 3) := by decide +kernel
theorem d_V_read_135 : decode prog_1_method_9_code 135 = .ok (.lload 6, 2) := by decide +kernel
theorem d_V_read_137 : decode prog_1_method_9_code 137 = .ok (.iload 5, 2) := by decide +kernel
theorem d_V_read_139 : decode prog_1_method_9_code 139 = .ok (.i2l, 1) := by decide +kernel
theorem d_V_read_140 : decode prog_1_method_9_code 140 = .ok (.bipush 56, 2) := by decide +kernel
theorem d_V_read_142 : decode prog_1_method_9_code 142 = .ok (.lshl, 1) := by decide +kernel
theorem d_V_read_143 : decode prog_1_method_9_code 143 = .ok (.lor, 1) := by decide +kernel
theorem d_V_read_144 : decode prog_1_method_9_code 144 = .ok (.lreturn, 1) := by decide +kernel
theorem d_Table_lengthOf_0 : decode prog_7_method_11_code 0 = .ok (.iload_n 1, 1) := by decide +kernel
theorem d_Table_lengthOf_1 : decode prog_7_method_11_code 1 = .ok (.istore_n 2, 1) := by decide +kernel
theorem d_Table_lengthOf_2 : decode prog_7_method_11_code 2 = .ok (.iconst 0, 1) := by decide +kernel
theorem d_Table_lengthOf_3 : decode prog_7_method_11_code 3 = .ok (.istore_n 3, 1) := by decide +kernel
theorem d_Table_lengthOf_4 : decode prog_7_method_11_code 4 = .ok (.iload_n 3, 1) := by decide +kernel
theorem d_Table_lengthOf_5 : decode prog_7_method_11_code 5 = .ok (.bipush 64, 2) := by decide +kernel
theorem d_Table_lengthOf_7 : decode prog_7_method_11_code 7 = .ok (.if_icmp .ge 22, 3) := by decide +kernel
theorem d_Table_lengthOf_10 : decode prog_7_method_11_code 10 = .ok (.iload_n 2, 1) := by decide +kernel
theorem d_Table_lengthOf_11 : decode prog_7_method_11_code 11 = .ok (.invokestatic 47, 3) := by decide +kernel
theorem d_Table_lengthOf_14 : decode prog_7_method_11_code 14 = .ok (.ifCond .eq 15, 3) := by decide +kernel
theorem d_Table_lengthOf_17 : decode prog_7_method_11_code 17 = .ok (.aload_n 0, 1) := by decide +kernel
theorem d_Table_lengthOf_18 : decode prog_7_method_11_code 18 = .ok (.iload_n 2, 1) := by decide +kernel
theorem d_Table_lengthOf_19 : decode prog_7_method_11_code 19 = .ok (.invokevirtual 25, 3) := by decide +kernel
theorem d_Table_lengthOf_22 : decode prog_7_method_11_code 22 = .ok (.istore_n 2, 1) := by decide +kernel
theorem d_Table_lengthOf_23 : decode prog_7_method_11_code 23 = .ok (.iinc 3 1, 3) := by decide +kernel
theorem d_Table_lengthOf_26 : decode prog_7_method_11_code 26 = .ok (.goto (-22), 3) := by decide +kernel
theorem d_Table_lengthOf_29 : decode prog_7_method_11_code 29 = .ok (.iload_n 3, 1) := by decide +kernel
theorem d_Table_lengthOf_30 : decode prog_7_method_11_code 30 = .ok (.ireturn, 1) := by decide +kernel
theorem d_V_roomAfterGrowing_0 : decode prog_1_method_24_code 0 = .ok (.aload_n 0, 1) := by decide +kernel
theorem d_V_roomAfterGrowing_1 : decode prog_1_method_24_code 1 = .ok (.getfield 30, 3) := by decide +kernel
theorem d_V_roomAfterGrowing_4 : decode prog_1_method_24_code 4 = .ok (.aload_n 0, 1) := by decide +kernel
theorem d_V_roomAfterGrowing_5 : decode prog_1_method_24_code 5 = .ok (.getfield 21, 3) := by decide +kernel
theorem d_V_roomAfterGrowing_8 : decode prog_1_method_24_code 8 = .ok (.iload_n 1, 1) := by decide +kernel
theorem d_V_roomAfterGrowing_9 : decode prog_1_method_24_code 9 = .ok (.bipush 8, 2) := by decide +kernel
theorem d_V_roomAfterGrowing_11 : decode prog_1_method_24_code 11 = .ok (.iadd, 1) := by decide +kernel
theorem d_V_roomAfterGrowing_12 : decode prog_1_method_24_code 12 = .ok (.invokevirtual 193, 3) := by decide +kernel
theorem d_V_roomAfterGrowing_15 : decode prog_1_method_24_code 15 = .ok (.invokevirtual 343, 3) := by decide +kernel
theorem d_V_roomAfterGrowing_18 : decode prog_1_method_24_code 18 = .ok (.istore_n 3, 1) := by decide +kernel
theorem d_V_roomAfterGrowing_19 : decode prog_1_method_24_code 19 = .ok (.iconst 0, 1) := by decide +kernel
theorem d_V_roomAfterGrowing_20 : decode prog_1_method_24_code 20 = .ok (.istore 4, 2) := by decide +kernel
theorem d_V_roomAfterGrowing_22 : decode prog_1_method_24_code 22 = .ok (.iload 4, 2) := by decide +kernel
theorem d_V_roomAfterGrowing_24 : decode prog_1_method_24_code 24 = .ok (.bipush 64, 2) := by decide +kernel
theorem d_V_roomAfterGrowing_26 : decode prog_1_method_24_code 26 = .ok (.if_icmp .ge 91, 3) := by decide +kernel
theorem d_V_roomAfterGrowing_29 : decode prog_1_method_24_code 29 = .ok (.iload_n 3, 1) := by decide +kernel
theorem d_V_roomAfterGrowing_30 : decode prog_1_method_24_code 30 = .ok (.bipush 32, 2) := by decide +kernel
theorem d_V_roomAfterGrowing_32 : decode prog_1_method_24_code 32 = .ok (.imul, 1) := by decide +kernel
theorem d_V_roomAfterGrowing_33 : decode prog_1_method_24_code 33 = .ok (.iload_n 2, 1) := by decide +kernel
theorem d_V_roomAfterGrowing_34 : decode prog_1_method_24_code 34 = .ok (.if_icmp .ge 83, 3) := by decide +kernel
theorem d_V_roomAfterGrowing_37 : decode prog_1_method_24_code 37 = .ok (.aload_n 0, 1) := by decide +kernel
theorem d_V_roomAfterGrowing_38 : decode prog_1_method_24_code 38 = .ok (.getfield 30, 3) := by decide +kernel
theorem d_V_roomAfterGrowing_41 : decode prog_1_method_24_code 41 = .ok (.invokevirtual 111, 3) := by decide +kernel
theorem d_V_roomAfterGrowing_44 : decode prog_1_method_24_code 44 = .ok (.istore 5, 2) := by decide +kernel
theorem d_V_roomAfterGrowing_46 : decode prog_1_method_24_code 46 = .ok (.iload 5, 2) := by decide +kernel
theorem d_V_roomAfterGrowing_48 : decode prog_1_method_24_code 48 = .ok (.ifCond .ne 6, 3) := by decide +kernel
theorem d_V_roomAfterGrowing_51 : decode prog_1_method_24_code 51 = .ok (.goto 66, 3) := by decide +kernel
theorem d_V_roomAfterGrowing_54 : decode prog_1_method_24_code 54 = .ok (.iload_n 3, 1) := by decide +kernel
theorem d_V_roomAfterGrowing_55 : decode prog_1_method_24_code 55 = .ok (.ifCond .ne 19, 3) := by decide +kernel
theorem d_V_roomAfterGrowing_58 : decode prog_1_method_24_code 58 = .ok (.aload_n 0, 1) := by decide +kernel
theorem d_V_roomAfterGrowing_59 : decode prog_1_method_24_code 59 = .ok (.getfield 21, 3) := by decide +kernel
theorem d_V_roomAfterGrowing_62 : decode prog_1_method_24_code 62 = .ok (.iload_n 1, 1) := by decide +kernel
theorem d_V_roomAfterGrowing_63 : decode prog_1_method_24_code 63 = .ok (.bipush 8, 2) := by decide +kernel
theorem d_V_roomAfterGrowing_65 : decode prog_1_method_24_code 65 = .ok (.iadd, 1) := by decide +kernel
theorem d_V_roomAfterGrowing_66 : decode prog_1_method_24_code 66 = .ok (.iload 5, 2) := by decide +kernel
theorem d_V_roomAfterGrowing_68 : decode prog_1_method_24_code 68 = .ok (.invokevirtual 222, 3) := by decide +kernel
theorem d_V_roomAfterGrowing_71 : decode prog_1_method_24_code 71 = .ok (.goto 37, 3) := by decide +kernel
theorem d_V_roomAfterGrowing_74 : decode prog_1_method_24_code 74 = .ok (.aload_n 0, 1) := by decide +kernel
theorem d_V_roomAfterGrowing_75 : decode prog_1_method_24_code 75 = .ok (.getfield 21, 3) := by decide +kernel
theorem d_V_roomAfterGrowing_78 : decode prog_1_method_24_code 78 = .ok (.iload_n 1, 1) := by decide +kernel
theorem d_V_roomAfterGrowing_79 : decode prog_1_method_24_code 79 = .ok (.bipush 8, 2) := by decide +kernel
theorem d_V_roomAfterGrowing_81 : decode prog_1_method_24_code 81 = .ok (.iadd, 1) := by decide +kernel
theorem d_V_roomAfterGrowing_82 : decode prog_1_method_24_code 82 = .ok (.invokevirtual 193, 3) := by decide +kernel
theorem d_V_roomAfterGrowing_85 : decode prog_1_method_24_code 85 = .ok (.istore 6, 2) := by decide +kernel
theorem d_V_roomAfterGrowing_87 : decode prog_1_method_24_code 87 = .ok (.aload_n 0, 1) := by decide +kernel
theorem d_V_roomAfterGrowing_88 : decode prog_1_method_24_code 88 = .ok (.getfield 30, 3) := by decide +kernel
theorem d_V_roomAfterGrowing_91 : decode prog_1_method_24_code 91 = .ok (.aload_n 0, 1) := by decide +kernel
theorem d_V_roomAfterGrowing_92 : decode prog_1_method_24_code 92 = .ok (.getfield 30, 3) := by decide +kernel
theorem d_V_roomAfterGrowing_95 : decode prog_1_method_24_code 95 = .ok (.iload 6, 2) := by decide +kernel
theorem d_V_roomAfterGrowing_97 : decode prog_1_method_24_code 97 = .ok (.iload_n 3, 1) := by decide +kernel
theorem d_V_roomAfterGrowing_98 : decode prog_1_method_24_code 98 = .ok (.iconst 1, 1) := by decide +kernel
theorem d_V_roomAfterGrowing_99 : decode prog_1_method_24_code 99 = .ok (.isub, 1) := by decide +kernel
theorem d_V_roomAfterGrowing_100 : decode prog_1_method_24_code 100 = .ok (.invokevirtual 337, 3) := by decide +kernel
theorem d_V_roomAfterGrowing_103 : decode prog_1_method_24_code 103 = .ok (.iload 5, 2) := by decide +kernel
theorem d_V_roomAfterGrowing_105 : decode prog_1_method_24_code 105 = .ok (.invokevirtual 316, 3) := by decide +kernel
theorem d_V_roomAfterGrowing_108 : decode prog_1_method_24_code 108 = .ok (.iinc 3 1, 3) := by decide +kernel
theorem d_V_roomAfterGrowing_111 : decode prog_1_method_24_code 111 = .ok (.iinc 4 1, 3) := by decide +kernel
theorem d_V_roomAfterGrowing_114 : decode prog_1_method_24_code 114 = .ok (.goto (-92), 3) := by decide +kernel
theorem d_V_roomAfterGrowing_117 : decode prog_1_method_24_code 117 = .ok (.iload_n 3, 1) := by decide +kernel
theorem d_V_roomAfterGrowing_118 : decode prog_1_method_24_code 118 = .ok (.bipush 32, 2) := by decide +kernel
theorem d_V_roomAfterGrowing_120 : decode prog_1_method_24_code 120 = .ok (.imul, 1) := by decide +kernel
theorem d_V_roomAfterGrowing_121 : decode prog_1_method_24_code 121 = .ok (.ireturn, 1) := by decide +kernel
theorem d_V_spread_0 : decode prog_1_method_25_code 0 = .ok (.iconst 0, 1) := by decide +kernel
theorem d_V_spread_1 : decode prog_1_method_25_code 1 = .ok (.istore 4, 2) := by decide +kernel
theorem d_V_spread_3 : decode prog_1_method_25_code 3 = .ok (.iload 4, 2) := by decide +kernel
theorem d_V_spread_5 : decode prog_1_method_25_code 5 = .ok (.iload_n 3, 1) := by decide +kernel
theorem d_V_spread_6 : decode prog_1_method_25_code 6 = .ok (.if_icmp .ge 32, 3) := by decide +kernel
theorem d_V_spread_9 : decode prog_1_method_25_code 9 = .ok (.aload_n 0, 1) := by decide +kernel
theorem d_V_spread_10 : decode prog_1_method_25_code 10 = .ok (.getfield 62, 3) := by decide +kernel
theorem d_V_spread_13 : decode prog_1_method_25_code 13 = .ok (.iload 4, 2) := by decide +kernel
theorem d_V_spread_15 : decode prog_1_method_25_code 15 = .ok (.lload_n 1, 1) := by decide +kernel
theorem d_V_spread_16 : decode prog_1_method_25_code 16 = .ok (.bipush 8, 2) := by decide +kernel
theorem d_V_spread_18 : decode prog_1_method_25_code 18 = .ok (.iload_n 3, 1) := by decide +kernel
theorem d_V_spread_19 : decode prog_1_method_25_code 19 = .ok (.iconst 1, 1) := by decide +kernel
theorem d_V_spread_20 : decode prog_1_method_25_code 20 = .ok (.isub, 1) := by decide +kernel
theorem d_V_spread_21 : decode prog_1_method_25_code 21 = .ok (.iload 4, 2) := by decide +kernel
theorem d_V_spread_23 : decode prog_1_method_25_code 23 = .ok (.isub, 1) := by decide +kernel
theorem d_V_spread_24 : decode prog_1_method_25_code 24 = .ok (.imul, 1) := by decide +kernel
theorem d_V_spread_25 : decode prog_1_method_25_code 25 = .ok (.lshr, 1) := by decide +kernel
theorem d_V_spread_26 : decode prog_1_method_25_code 26 = .ok (.l2i, 1) := by decide +kernel
theorem d_V_spread_27 : decode prog_1_method_25_code 27 = .ok (.sipush 255, 3) := by decide +kernel
theorem d_V_spread_30 : decode prog_1_method_25_code 30 = .ok (.iand, 1) := by decide +kernel
theorem d_V_spread_31 : decode prog_1_method_25_code 31 = .ok (.iastore, 1) := by decide +kernel
theorem d_V_spread_32 : decode prog_1_method_25_code 32 = .ok (.iinc 4 1, 3) := by decide +kernel
theorem d_V_spread_35 : decode prog_1_method_25_code 35 = .ok (.goto (-32), 3) := by decide +kernel
theorem d_V_spread_38 : decode prog_1_method_25_code 38 = .ok (.return_, 1) := by decide +kernel
theorem d_V_writeData_0 : decode prog_1_method_26_code 0 = .ok (.iconst 0, 1) := by decide +kernel
theorem d_V_writeData_1 : decode prog_1_method_26_code 1 = .ok (.istore 4, 2) := by decide +kernel
theorem d_V_writeData_3 : decode prog_1_method_26_code 3 = .ok (.iconst 0, 1) := by decide +kernel
theorem d_V_writeData_4 : decode prog_1_method_26_code 4 = .ok (.istore 5, 2) := by decide +kernel
theorem d_V_writeData_6 : decode prog_1_method_26_code 6 = .ok (.iload 5, 2) := by decide +kernel
theorem d_V_writeData_8 : decode prog_1_method_26_code 8 = .ok (.bipush 8, 2) := by decide +kernel
theorem d_V_writeData_10 : decode prog_1_method_26_code 10 = .ok (.if_icmp .ge 69, 3) := by decide +kernel
theorem d_V_writeData_13 : decode prog_1_method_26_code 13 = .ok (.iload 4, 2) := by decide +kernel
theorem d_V_writeData_15 : decode prog_1_method_26_code 15 = .ok (.iload_n 3, 1) := by decide +kernel
theorem d_V_writeData_16 : decode prog_1_method_26_code 16 = .ok (.if_icmp .ge 63, 3) := by decide +kernel
theorem d_V_writeData_19 : decode prog_1_method_26_code 19 = .ok (.bipush 32, 2) := by decide +kernel
theorem d_V_writeData_21 : decode prog_1_method_26_code 21 = .ok (.iload_n 2, 1) := by decide +kernel
theorem d_V_writeData_22 : decode prog_1_method_26_code 22 = .ok (.iload 4, 2) := by decide +kernel
theorem d_V_writeData_24 : decode prog_1_method_26_code 24 = .ok (.iadd, 1) := by decide +kernel
theorem d_V_writeData_25 : decode prog_1_method_26_code 25 = .ok (.bipush 32, 2) := by decide +kernel
theorem d_V_writeData_27 : decode prog_1_method_26_code 27 = .ok (.irem, 1) := by decide +kernel
theorem d_V_writeData_28 : decode prog_1_method_26_code 28 = .ok (.isub, 1) := by decide +kernel
theorem d_V_writeData_29 : decode prog_1_method_26_code 29 = .ok (.istore 6, 2) := by decide +kernel
theorem d_V_writeData_31 : decode prog_1_method_26_code 31 = .ok (.iload 6, 2) := by decide +kernel
theorem d_V_writeData_33 : decode prog_1_method_26_code 33 = .ok (.iload_n 3, 1) := by decide +kernel
theorem d_V_writeData_34 : decode prog_1_method_26_code 34 = .ok (.iload 4, 2) := by decide +kernel
theorem d_V_writeData_36 : decode prog_1_method_26_code 36 = .ok (.isub, 1) := by decide +kernel
theorem d_V_writeData_37 : decode prog_1_method_26_code 37 = .ok (.invokestatic 196, 3) := by decide +kernel
theorem d_V_writeData_40 : decode prog_1_method_26_code 40 = .ok (.istore 7, 2) := by decide +kernel
theorem d_V_writeData_42 : decode prog_1_method_26_code 42 = .ok (.aload_n 0, 1) := by decide +kernel
theorem d_V_writeData_43 : decode prog_1_method_26_code 43 = .ok (.getfield 21, 3) := by decide +kernel
theorem d_V_writeData_46 : decode prog_1_method_26_code 46 = .ok (.aload_n 0, 1) := by decide +kernel
theorem d_V_writeData_47 : decode prog_1_method_26_code 47 = .ok (.iload_n 1, 1) := by decide +kernel
theorem d_V_writeData_48 : decode prog_1_method_26_code 48 = .ok (.iload_n 2, 1) := by decide +kernel
theorem d_V_writeData_49 : decode prog_1_method_26_code 49 = .ok (.iload 4, 2) := by decide +kernel
theorem d_V_writeData_51 : decode prog_1_method_26_code 51 = .ok (.iadd, 1) := by decide +kernel
theorem d_V_writeData_52 : decode prog_1_method_26_code 52 = .ok (.invokevirtual 202, 3) := by decide +kernel
theorem d_V_writeData_55 : decode prog_1_method_26_code 55 = .ok (.aload_n 0, 1) := by decide +kernel
theorem d_V_writeData_56 : decode prog_1_method_26_code 56 = .ok (.getfield 62, 3) := by decide +kernel
theorem d_V_writeData_59 : decode prog_1_method_26_code 59 = .ok (.iload 4, 2) := by decide +kernel
theorem d_V_writeData_61 : decode prog_1_method_26_code 61 = .ok (.iload 7, 2) := by decide +kernel
theorem d_V_writeData_63 : decode prog_1_method_26_code 63 = .ok (.invokevirtual 323, 3) := by decide +kernel
theorem d_V_writeData_66 : decode prog_1_method_26_code 66 = .ok (.iload 4, 2) := by decide +kernel
theorem d_V_writeData_68 : decode prog_1_method_26_code 68 = .ok (.iload 7, 2) := by decide +kernel
theorem d_V_writeData_70 : decode prog_1_method_26_code 70 = .ok (.iadd, 1) := by decide +kernel
theorem d_V_writeData_71 : decode prog_1_method_26_code 71 = .ok (.istore 4, 2) := by decide +kernel
theorem d_V_writeData_73 : decode prog_1_method_26_code 73 = .ok (.iinc 5 1, 3) := by decide +kernel
theorem d_V_writeData_76 : decode prog_1_method_26_code 76 = .ok (.goto (-70), 3) := by decide +kernel
theorem d_V_writeData_79 : decode prog_1_method_26_code 79 = .ok (.return_, 1) := by decide +kernel
theorem d_V_write_0 : decode prog_1_method_10_code 0 = .ok (.aload_n 0, 1) := by decide +kernel
theorem d_V_write_1 : decode prog_1_method_10_code 1 = .ok (.invokevirtual 70, 3) := by decide +kernel
theorem d_V_write_4 : decode prog_1_method_10_code 4 = .ok (.aload_n 0, 1) := by decide +kernel
theorem d_V_write_5 : decode prog_1_method_10_code 5 = .ok (.getfield 12, 3) := by decide +kernel
theorem d_V_write_8 : decode prog_1_method_10_code 8 = .ok (.iload_n 1, 1) := by decide +kernel
theorem d_V_write_9 : decode prog_1_method_10_code 9 = .ok (.invokevirtual 173, 3) := by decide +kernel
theorem d_V_write_12 : decode prog_1_method_10_code 12 = .ok (.ifCond .eq 16, 3) := by decide +kernel
theorem d_V_write_15 : decode prog_1_method_10_code 15 = .ok (.iload 4, 2) := by decide +kernel
theorem d_V_write_17 : decode prog_1_method_10_code 17 = .ok (.iconst 1, 1) := by decide +kernel
theorem d_V_write_18 : decode prog_1_method_10_code 18 = .ok (.if_icmp .lt 10, 3) := by decide +kernel
theorem d_V_write_21 : decode prog_1_method_10_code 21 = .ok (.iload 4, 2) := by decide +kernel
theorem d_V_write_23 : decode prog_1_method_10_code 23 = .ok (.bipush 8, 2) := by decide +kernel
theorem d_V_write_25 : decode prog_1_method_10_code 25 = .ok (.if_icmp .le 13, 3) := by decide +kernel
theorem d_V_write_28 : decode prog_1_method_10_code 28 = .ok (.new 80, 3) := by decide +kernel
theorem d_V_write_31 : decode prog_1_method_10_code 31 = .ok (.dup, 1) := by decide +kernel
theorem d_V_write_32 : decode prog_1_method_10_code 32 = .ok (.ldc 208, 2) := by decide +kernel
theorem d_V_write_34 : decode prog_1_method_10_code 34 = .ok (.invokespecial 84, 3) := by decide +kernel
theorem d_V_write_37 : decode prog_1_method_10_code 37 = .ok (.athrow, 1) := by decide +kernel
theorem d_V_write_38 : decode prog_1_method_10_code 38 = .ok (.aload_n 0, 1) := by decide +kernel
theorem d_V_write_39 : decode prog_1_method_10_code 39 = .ok (.getfield 12, 3) := by decide +kernel
theorem d_V_write_42 : decode prog_1_method_10_code 42 = .ok (.iload_n 1, 1) := by decide +kernel
theorem d_V_write_43 : decode prog_1_method_10_code 43 = .ok (.invokevirtual 187, 3) := by decide +kernel
theorem d_V_write_46 : decode prog_1_method_10_code 46 = .ok (.istore 5, 2) := by decide +kernel
theorem d_V_write_48 : decode prog_1_method_10_code 48 = .ok (.aload_n 0, 1) := by decide +kernel
theorem d_V_write_49 : decode prog_1_method_10_code 49 = .ok (.getfield 12, 3) := by decide +kernel
theorem d_V_write_52 : decode prog_1_method_10_code 52 = .ok (.iload_n 1, 1) := by decide +kernel
theorem d_V_write_53 : decode prog_1_method_10_code 53 = .ok (.invokevirtual 190, 3) := by decide +kernel
theorem d_V_write_56 : decode prog_1_method_10_code 56 = .ok (.istore 6, 2) := by decide +kernel
theorem d_V_write_58 : decode prog_1_method_10_code 58 = .ok (.iload 5, 2) := by decide +kernel
theorem d_V_write_60 : decode prog_1_method_10_code 60 = .ok (.iload 4, 2) := by decide +kernel
theorem d_V_write_62 : decode prog_1_method_10_code 62 = .ok (.iadd, 1) := by decide +kernel
theorem d_V_write_63 : decode prog_1_method_10_code 63 = .ok (.sipush 1024, 3) := by decide +kernel
theorem d_V_write_66 : decode prog_1_method_10_code 66 = .ok (.if_icmp .le 13, 3) := by decide +kernel
theorem d_V_write_69 : decode prog_1_method_10_code 69 = .ok (.new 106, 3) := by decide +kernel
theorem d_V_write_72 : decode prog_1_method_10_code 72 = .ok (.dup, 1) := by decide +kernel
theorem d_V_write_73 : decode prog_1_method_10_code 73 = .ok (.ldc 210, 2) := by decide +kernel
theorem d_V_write_75 : decode prog_1_method_10_code 75 = .ok (.invokespecial 110, 3) := by decide +kernel
theorem d_V_write_78 : decode prog_1_method_10_code 78 = .ok (.athrow, 1) := by decide +kernel
theorem d_V_write_79 : decode prog_1_method_10_code 79 = .ok (.iload 4, 2) := by decide +kernel
theorem d_V_write_81 : decode prog_1_method_10_code 81 = .ok (.aload_n 0, 1) := by decide +kernel
theorem d_V_write_82 : decode prog_1_method_10_code 82 = .ok (.iload 6, 2) := by decide +kernel
theorem d_V_write_84 : decode prog_1_method_10_code 84 = .ok (.iload 5, 2) := by decide +kernel
theorem d_V_write_86 : decode prog_1_method_10_code 86 = .ok (.iload 4, 2) := by decide +kernel
theorem d_V_write_88 : decode prog_1_method_10_code 88 = .ok (.iadd, 1) := by decide +kernel
theorem d_V_write_89 : decode prog_1_method_10_code 89 = .ok (.invokevirtual 212, 3) := by decide +kernel
theorem d_V_write_92 : decode prog_1_method_10_code 92 = .ok (.iload 5, 2) := by decide +kernel
theorem d_V_write_94 : decode prog_1_method_10_code 94 = .ok (.isub, 1) := by decide +kernel
theorem d_V_write_95 : decode prog_1_method_10_code 95 = .ok (.invokestatic 196, 3) := by decide +kernel
theorem d_V_write_98 : decode prog_1_method_10_code 98 = .ok (.istore 7, 2) := by decide +kernel
theorem d_V_write_100 : decode prog_1_method_10_code 100 = .ok (.iload 7, 2) := by decide +kernel
theorem d_V_write_102 : decode prog_1_method_10_code 102 = .ok (.ifCond .gt 13, 3) := by decide +kernel
theorem d_V_write_105 : decode prog_1_method_10_code 105 = .ok (.new 106, 3) := by decide +kernel
theorem d_V_write_108 : decode prog_1_method_10_code 108 = .ok (.dup, 1) := by decide +kernel
theorem d_V_write_109 : decode prog_1_method_10_code 109 = .ok (.ldc 115, 2) := by decide +kernel
theorem d_V_write_111 : decode prog_1_method_10_code 111 = .ok (.invokespecial 110, 3) := by decide +kernel
theorem d_V_write_114 : decode prog_1_method_10_code 114 = .ok (.athrow, 1) := by decide +kernel
theorem d_V_write_115 : decode prog_1_method_10_code 115 = .ok (.aload_n 0, 1) := by decide +kernel
theorem d_V_write_116 : decode prog_1_method_10_code 116 = .ok (.lload_n 2, 1) := by decide +kernel
theorem d_V_write_117 : decode prog_1_method_10_code 117 = .ok (.iload 4, 2) := by decide +kernel
theorem d_V_write_119 : decode prog_1_method_10_code 119 = .ok (.invokevirtual 215, 3) := by decide +kernel
theorem d_V_write_122 : decode prog_1_method_10_code 122 = .ok (.aload_n 0, 1) := by decide +kernel
theorem d_V_write_123 : decode prog_1_method_10_code 123 = .ok (.aload_n 0, 1) := by decide +kernel
theorem d_V_write_124 : decode prog_1_method_10_code 124 = .ok (.getfield 21, 3) := by decide +kernel
theorem d_V_write_127 : decode prog_1_method_10_code 127 = .ok (.iload 6, 2) := by decide +kernel
theorem d_V_write_129 : decode prog_1_method_10_code 129 = .ok (.bipush 8, 2) := by decide +kernel
theorem d_V_write_131 : decode prog_1_method_10_code 131 = .ok (.iadd, 1) := by decide +kernel
theorem d_V_write_132 : decode prog_1_method_10_code 132 = .ok (.invokevirtual 193, 3) := by decide +kernel
theorem d_V_write_135 : decode prog_1_method_10_code 135 = .ok (.iload 5, 2) := by decide +kernel
theorem d_V_write_137 : decode prog_1_method_10_code 137 = .ok (.iload 7, 2) := by decide +kernel
theorem d_V_write_139 : decode prog_1_method_10_code 139 = .ok (.invokevirtual 219, 3) := by decide +kernel
theorem d_V_write_142 : decode prog_1_method_10_code 142 = .ok (.iload 5, 2) := by decide +kernel
theorem d_V_write_144 : decode prog_1_method_10_code 144 = .ok (.iload 7, 2) := by decide +kernel
theorem d_V_write_146 : decode prog_1_method_10_code 146 = .ok (.iadd, 1) := by decide +kernel
theorem d_V_write_147 : decode prog_1_method_10_code 147 = .ok (.aload_n 0, 1) := by decide +kernel
theorem d_V_write_148 : decode prog_1_method_10_code 148 = .ok (.getfield 21, 3) := by decide +kernel
theorem d_V_write_151 : decode prog_1_method_10_code 151 = .ok (.iload 6, 2) := by decide +kernel
theorem d_V_write_153 : decode prog_1_method_10_code 153 = .ok (.bipush 10, 2) := by decide +kernel
theorem d_V_write_155 : decode prog_1_method_10_code 155 = .ok (.iadd, 1) := by decide +kernel
theorem d_V_write_156 : decode prog_1_method_10_code 156 = .ok (.invokevirtual 193, 3) := by decide +kernel
theorem d_V_write_159 : decode prog_1_method_10_code 159 = .ok (.if_icmp .le 20, 3) := by decide +kernel
theorem d_V_write_162 : decode prog_1_method_10_code 162 = .ok (.aload_n 0, 1) := by decide +kernel
theorem d_V_write_163 : decode prog_1_method_10_code 163 = .ok (.getfield 21, 3) := by decide +kernel
theorem d_V_write_166 : decode prog_1_method_10_code 166 = .ok (.iload 6, 2) := by decide +kernel
theorem d_V_write_168 : decode prog_1_method_10_code 168 = .ok (.bipush 10, 2) := by decide +kernel
theorem d_V_write_170 : decode prog_1_method_10_code 170 = .ok (.iadd, 1) := by decide +kernel
theorem d_V_write_171 : decode prog_1_method_10_code 171 = .ok (.iload 5, 2) := by decide +kernel
theorem d_V_write_173 : decode prog_1_method_10_code 173 = .ok (.iload 7, 2) := by decide +kernel
theorem d_V_write_175 : decode prog_1_method_10_code 175 = .ok (.iadd, 1) := by decide +kernel
theorem d_V_write_176 : decode prog_1_method_10_code 176 = .ok (.invokevirtual 222, 3) := by decide +kernel
theorem d_V_write_179 : decode prog_1_method_10_code 179 = .ok (.aload_n 0, 1) := by decide +kernel
theorem d_V_write_180 : decode prog_1_method_10_code 180 = .ok (.getfield 12, 3) := by decide +kernel
