theorem d_Name_chooseShort_30 : decode prog_4_method_6_code 30 = .ok (.iconst 0, 1) := by decide +kernel
theorem d_Name_chooseShort_31 : decode prog_4_method_6_code 31 = .ok (.putfield 43, 3) := by decide +kernel
theorem d_Name_chooseShort_34 : decode prog_4_method_6_code 34 = .ok (.aload_n 0, 1) := by decide +kernel
theorem d_Name_chooseShort_35 : decode prog_4_method_6_code 35 = .ok (.bipush 6, 2) := by decide +kernel
theorem d_Name_chooseShort_37 : decode prog_4_method_6_code 37 = .ok (.invokevirtual 46, 3) := by decide +kernel
theorem d_Name_chooseShort_40 : decode prog_4_method_6_code 40 = .ok (.pop, 1) := by decide +kernel
theorem d_Name_chooseShort_41 : decode prog_4_method_6_code 41 = .ok (.iconst 1, 1) := by decide +kernel
theorem d_Name_chooseShort_42 : decode prog_4_method_6_code 42 = .ok (.ireturn, 1) := by decide +kernel
theorem d_Name_chooseShort_43 : decode prog_4_method_6_code 43 = .ok (.aload_n 0, 1) := by decide +kernel
theorem d_Name_chooseShort_44 : decode prog_4_method_6_code 44 = .ok (.aload_n 0, 1) := by decide +kernel
theorem d_Name_chooseShort_45 : decode prog_4_method_6_code 45 = .ok (.getfield 25, 3) := by decide +kernel
theorem d_Name_chooseShort_48 : decode prog_4_method_6_code 48 = .ok (.bipush 13, 2) := by decide +kernel
theorem d_Name_chooseShort_50 : decode prog_4_method_6_code 50 = .ok (.if_icmp .le 7, 3) := by decide +kernel
theorem d_Name_chooseShort_53 : decode prog_4_method_6_code 53 = .ok (.iconst 2, 1) := by decide +kernel
theorem d_Name_chooseShort_54 : decode prog_4_method_6_code 54 = .ok (.goto 4, 3) := by decide +kernel
theorem d_Name_chooseShort_57 : decode prog_4_method_6_code 57 = .ok (.iconst 1, 1) := by decide +kernel
theorem d_Name_chooseShort_58 : decode prog_4_method_6_code 58 = .ok (.putfield 43, 3) := by decide +kernel
theorem d_Name_chooseShort_61 : decode prog_4_method_6_code 61 = .ok (.aload_n 0, 1) := by decide +kernel
theorem d_Name_chooseShort_62 : decode prog_4_method_6_code 62 = .ok (.iconst 4, 1) := by decide +kernel
theorem d_Name_chooseShort_63 : decode prog_4_method_6_code 63 = .ok (.invokevirtual 46, 3) := by decide +kernel
theorem d_Name_chooseShort_66 : decode prog_4_method_6_code 66 = .ok (.istore_n 2, 1) := by decide +kernel
theorem d_Name_chooseShort_67 : decode prog_4_method_6_code 67 = .ok (.aload_n 0, 1) := by decide +kernel
theorem d_Name_chooseShort_68 : decode prog_4_method_6_code 68 = .ok (.getfield 15, 3) := by decide +kernel
theorem d_Name_chooseShort_71 : decode prog_4_method_6_code 71 = .ok (.iload_n 2, 1) := by decide +kernel
theorem d_Name_chooseShort_72 : decode prog_4_method_6_code 72 = .ok (.bipush 126, 2) := by decide +kernel
theorem d_Name_chooseShort_74 : decode prog_4_method_6_code 74 = .ok (.iastore, 1) := by decide +kernel
theorem d_Name_chooseShort_75 : decode prog_4_method_6_code 75 = .ok (.bipush 49, 2) := by decide +kernel
theorem d_Name_chooseShort_77 : decode prog_4_method_6_code 77 = .ok (.istore_n 3, 1) := by decide +kernel
theorem d_Name_chooseShort_78 : decode prog_4_method_6_code 78 = .ok (.iload_n 3, 1) := by decide +kernel
theorem d_Name_chooseShort_79 : decode prog_4_method_6_code 79 = .ok (.bipush 57, 2) := by decide +kernel
theorem d_Name_chooseShort_81 : decode prog_4_method_6_code 81 = .ok (.if_icmp .gt 34, 3) := by decide +kernel
theorem d_Name_chooseShort_84 : decode prog_4_method_6_code 84 = .ok (.aload_n 0, 1) := by decide +kernel
theorem d_Name_chooseShort_85 : decode prog_4_method_6_code 85 = .ok (.getfield 15, 3) := by decide +kernel
theorem d_Name_chooseShort_88 : decode prog_4_method_6_code 88 = .ok (.iload_n 2, 1) := by decide +kernel
theorem d_Name_chooseShort_89 : decode prog_4_method_6_code 89 = .ok (.iconst 1, 1) := by decide +kernel
theorem d_Name_chooseShort_90 : decode prog_4_method_6_code 90 = .ok (.iadd, 1) := by decide +kernel
theorem d_Name_chooseShort_91 : decode prog_4_method_6_code 91 = .ok (.iload_n 3, 1) := by decide +kernel
theorem d_Name_chooseShort_92 : decode prog_4_method_6_code 92 = .ok (.iastore, 1) := by decide +kernel
theorem d_Name_chooseShort_93 : decode prog_4_method_6_code 93 = .ok (.aload_n 1, 1) := by decide +kernel
theorem d_Name_chooseShort_94 : decode prog_4_method_6_code 94 = .ok (.aload_n 0, 1) := by decide +kernel
theorem d_Name_chooseShort_95 : decode prog_4_method_6_code 95 = .ok (.getfield 15, 3) := by decide +kernel
theorem d_Name_chooseShort_98 : decode prog_4_method_6_code 98 = .ok (.iload_n 2, 1) := by decide +kernel
theorem d_Name_chooseShort_99 : decode prog_4_method_6_code 99 = .ok (.iconst 2, 1) := by decide +kernel
theorem d_Name_chooseShort_100 : decode prog_4_method_6_code 100 = .ok (.iadd, 1) := by decide +kernel
theorem d_Name_chooseShort_101 : decode prog_4_method_6_code 101 = .ok (.invokevirtual 49, 3) := by decide +kernel
theorem d_Name_chooseShort_104 : decode prog_4_method_6_code 104 = .ok (.ifCond .ne 5, 3) := by decide +kernel
theorem d_Name_chooseShort_107 : decode prog_4_method_6_code 107 = .ok (.iconst 1, 1) := by decide +kernel
theorem d_Name_chooseShort_108 : decode prog_4_method_6_code 108 = .ok (.ireturn, 1) := by decide +kernel
theorem d_Name_chooseShort_109 : decode prog_4_method_6_code 109 = .ok (.iinc 3 1, 3) := by decide +kernel
theorem d_Name_chooseShort_112 : decode prog_4_method_6_code 112 = .ok (.goto (-34), 3) := by decide +kernel
theorem d_Name_chooseShort_115 : decode prog_4_method_6_code 115 = .ok (.iconst 0, 1) := by decide +kernel
theorem d_Name_chooseShort_116 : decode prog_4_method_6_code 116 = .ok (.ireturn, 1) := by decide +kernel
theorem d_Table_isFree_0 : decode prog_7_method_6_code 0 = .ok (.aload_n 0, 1) := by decide +kernel
theorem d_Table_isFree_1 : decode prog_7_method_6_code 1 = .ok (.iload_n 1, 1) := by decide +kernel
theorem d_Table_isFree_2 : decode prog_7_method_6_code 2 = .ok (.invokevirtual 25, 3) := by decide +kernel
theorem d_Table_isFree_5 : decode prog_7_method_6_code 5 = .ok (.ifCond .ne 7, 3) := by decide +kernel
theorem d_Table_isFree_8 : decode prog_7_method_6_code 8 = .ok (.iconst 1, 1) := by decide +kernel
theorem d_Table_isFree_9 : decode prog_7_method_6_code 9 = .ok (.goto 4, 3) := by decide +kernel
theorem d_Table_isFree_12 : decode prog_7_method_6_code 12 = .ok (.iconst 0, 1) := by decide +kernel
theorem d_Table_isFree_13 : decode prog_7_method_6_code 13 = .ok (.ireturn, 1) := by decide +kernel
theorem d_Table_leastFree_0 : decode prog_7_method_8_code 0 = .ok (.iconst 2, 1) := by decide +kernel
theorem d_Table_leastFree_1 : decode prog_7_method_8_code 1 = .ok (.istore_n 1, 1) := by decide +kernel
theorem d_Table_leastFree_2 : decode prog_7_method_8_code 2 = .ok (.iload_n 1, 1) := by decide +kernel
theorem d_Table_leastFree_3 : decode prog_7_method_8_code 3 = .ok (.bipush 64, 2) := by decide +kernel
theorem d_Table_leastFree_5 : decode prog_7_method_8_code 5 = .ok (.if_icmp .ge 19, 3) := by decide +kernel
theorem d_Table_leastFree_8 : decode prog_7_method_8_code 8 = .ok (.aload_n 0, 1) := by decide +kernel
theorem d_Table_leastFree_9 : decode prog_7_method_8_code 9 = .ok (.iload_n 1, 1) := by decide +kernel
theorem d_Table_leastFree_10 : decode prog_7_method_8_code 10 = .ok (.invokevirtual 28, 3) := by decide +kernel
theorem d_Table_leastFree_13 : decode prog_7_method_8_code 13 = .ok (.ifCond .eq 5, 3) := by decide +kernel
theorem d_Table_leastFree_16 : decode prog_7_method_8_code 16 = .ok (.iload_n 1, 1) := by decide +kernel
theorem d_Table_leastFree_17 : decode prog_7_method_8_code 17 = .ok (.ireturn, 1) := by decide +kernel
theorem d_Table_leastFree_18 : decode prog_7_method_8_code 18 = .ok (.iinc 1 1, 3) := by decide +kernel
theorem d_Table_leastFree_21 : decode prog_7_method_8_code 21 = .ok (.goto (-19), 3) := by decide +kernel
theorem d_Table_leastFree_24 : decode prog_7_method_8_code 24 = .ok (.iconst 0, 1) := by decide +kernel
theorem d_Table_leastFree_25 : decode prog_7_method_8_code 25 = .ok (.ireturn, 1) := by decide +kernel
theorem d_Ses_leave_0 : decode prog_6_method_5_code 0 = .ok (.aload_n 0, 1) := by decide +kernel
theorem d_Ses_leave_1 : decode prog_6_method_5_code 1 = .ok (.iconst 2, 1) := by decide +kernel
theorem d_Ses_leave_2 : decode prog_6_method_5_code 2 = .ok (.putfield 29, 3) := by decide +kernel
theorem d_Ses_leave_5 : decode prog_6_method_5_code 5 = .ok (.aload_n 0, 1) := by decide +kernel
theorem d_Ses_leave_6 : decode prog_6_method_5_code 6 = .ok (.iconst 1, 1) := by decide +kernel
theorem d_Ses_leave_7 : decode prog_6_method_5_code 7 = .ok (.putfield 32, 3) := by decide +kernel
theorem d_Ses_leave_10 : decode prog_6_method_5_code 10 = .ok (.iconst 0, 1) := by decide +kernel
theorem d_Ses_leave_11 : decode prog_6_method_5_code 11 = .ok (.istore_n 1, 1) := by decide +kernel
theorem d_Ses_leave_12 : decode prog_6_method_5_code 12 = .ok (.iload_n 1, 1) := by decide +kernel
theorem d_Ses_leave_13 : decode prog_6_method_5_code 13 = .ok (.iconst 4, 1) := by decide +kernel
theorem d_Ses_leave_14 : decode prog_6_method_5_code 14 = .ok (.if_icmp .ge 23, 3) := by decide +kernel
theorem d_Ses_leave_17 : decode prog_6_method_5_code 17 = .ok (.aload_n 0, 1) := by decide +kernel
theorem d_Ses_leave_18 : decode prog_6_method_5_code 18 = .ok (.getfield 15, 3) := by decide +kernel
theorem d_Ses_leave_21 : decode prog_6_method_5_code 21 = .ok (.iload_n 1, 1) := by decide +kernel
theorem d_Ses_leave_22 : decode prog_6_method_5_code 22 = .ok (.iconst (-1), 1) := by decide +kernel
theorem d_Ses_leave_23 : decode prog_6_method_5_code 23 = .ok (.iastore, 1) := by decide +kernel
theorem d_Ses_leave_24 : decode prog_6_method_5_code 24 = .ok (.aload_n 0, 1) := by decide +kernel
theorem d_Ses_leave_25 : decode prog_6_method_5_code 25 = .ok (.getfield 19, 3) := by decide +kernel
theorem d_Ses_leave_28 : decode prog_6_method_5_code 28 = .ok (.iload_n 1, 1) := by decide +kernel
theorem d_Ses_leave_29 : decode prog_6_method_5_code 29 = .ok (.iconst 0, 1) := by decide +kernel
theorem d_Ses_leave_30 : decode prog_6_method_5_code 30 = .ok (.iastore, 1) := by decide +kernel
theorem d_Ses_leave_31 : decode prog_6_method_5_code 31 = .ok (.iinc 1 1, 3) := by decide +kernel
theorem d_Ses_leave_34 : decode prog_6_method_5_code 34 = .ok (.goto (-22), 3) := by decide +kernel
theorem d_Ses_leave_37 : decode prog_6_method_5_code 37 = .ok (.return_, 1) := by decide +kernel
theorem d_Disk_countWrite_0 : decode prog_2_method_7_code 0 = .ok (.aload_n 0, 1) := by decide +kernel
theorem d_Disk_countWrite_1 : decode prog_2_method_7_code 1 = .ok (.getfield 23, 3) := by decide +kernel
theorem d_Disk_countWrite_4 : decode prog_2_method_7_code 4 = .ok (.ifCond .eq 45, 3) := by decide +kernel
theorem d_Disk_countWrite_7 : decode prog_2_method_7_code 7 = .ok (.aload_n 0, 1) := by decide +kernel
theorem d_Disk_countWrite_8 : decode prog_2_method_7_code 8 = .ok (.getfield 26, 3) := by decide +kernel
theorem d_Disk_countWrite_11 : decode prog_2_method_7_code 11 = .ok (.ifCond .ne 38, 3) := by decide +kernel
theorem d_Disk_countWrite_14 : decode prog_2_method_7_code 14 = .ok (.aload_n 0, 1) := by decide +kernel
theorem d_Disk_countWrite_15 : decode prog_2_method_7_code 15 = .ok (.iconst 0, 1) := by decide +kernel
theorem d_Disk_countWrite_16 : decode prog_2_method_7_code 16 = .ok (.putfield 23, 3) := by decide +kernel
theorem d_Disk_countWrite_19 : decode prog_2_method_7_code 19 = .ok (.aload_n 0, 1) := by decide +kernel
theorem d_Disk_countWrite_20 : decode prog_2_method_7_code 20 = .ok (.iconst 0, 1) := by decide +kernel
theorem d_Disk_countWrite_21 : decode prog_2_method_7_code 21 = .ok (.putfield 19, 3) := by decide +kernel
theorem d_Disk_countWrite_24 : decode prog_2_method_7_code 24 = .ok (.aload_n 0, 1) := by decide +kernel
theorem d_Disk_countWrite_25 : decode prog_2_method_7_code 25 = .ok (.getfield 9, 3) := by decide +kernel
theorem d_Disk_countWrite_28 : decode prog_2_method_7_code 28 = .ok (.invokevirtual 30, 3) := by decide +kernel
theorem d_Disk_countWrite_31 : decode prog_2_method_7_code 31 = .ok (.aload_n 0, 1) := by decide +kernel
theorem d_Disk_countWrite_32 : decode prog_2_method_7_code 32 = .ok (.getfield 9, 3) := by decide +kernel
theorem d_Disk_countWrite_35 : decode prog_2_method_7_code 35 = .ok (.iconst 0, 1) := by decide +kernel
theorem d_Disk_countWrite_36 : decode prog_2_method_7_code 36 = .ok (.putfield 35, 3) := by decide +kernel
theorem d_Disk_countWrite_39 : decode prog_2_method_7_code 39 = .ok (.new 38, 3) := by decide +kernel
theorem d_Disk_countWrite_42 : decode prog_2_method_7_code 42 = .ok (.dup, 1) := by decide +kernel
theorem d_Disk_countWrite_43 : decode prog_2_method_7_code 43 = .ok (.ldc 40, 2) := by decide +kernel
theorem d_Disk_countWrite_45 : decode prog_2_method_7_code 45 = .ok (.invokespecial 42, 3) := by decide +kernel
theorem d_Disk_countWrite_48 : decode prog_2_method_7_code 48 = .ok (.athrow, 1) := by decide +kernel
theorem d_Disk_countWrite_49 : decode prog_2_method_7_code 49 = .ok (.aload_n 0, 1) := by decide +kernel
theorem d_Disk_countWrite_50 : decode prog_2_method_7_code 50 = .ok (.getfield 23, 3) := by decide +kernel
theorem d_Disk_countWrite_53 : decode prog_2_method_7_code 53 = .ok (.ifCond .eq 13, 3) := by decide +kernel
theorem d_Disk_countWrite_56 : decode prog_2_method_7_code 56 = .ok (.aload_n 0, 1) := by decide +kernel
theorem d_Disk_countWrite_57 : decode prog_2_method_7_code 57 = .ok (.dup, 1) := by decide +kernel
theorem d_Disk_countWrite_58 : decode prog_2_method_7_code 58 = .ok (.getfield 26, 3) := by decide +kernel
theorem d_Disk_countWrite_61 : decode prog_2_method_7_code 61 = .ok (.iconst 1, 1) := by decide +kernel
theorem d_Disk_countWrite_62 : decode prog_2_method_7_code 62 = .ok (.isub, 1) := by decide +kernel
theorem d_Disk_countWrite_63 : decode prog_2_method_7_code 63 = .ok (.putfield 26, 3) := by decide +kernel
theorem d_Disk_countWrite_66 : decode prog_2_method_7_code 66 = .ok (.aload_n 0, 1) := by decide +kernel
theorem d_Disk_countWrite_67 : decode prog_2_method_7_code 67 = .ok (.dup, 1) := by decide +kernel
theorem d_Disk_countWrite_68 : decode prog_2_method_7_code 68 = .ok (.getfield 45, 3) := by decide +kernel
theorem d_Disk_countWrite_71 : decode prog_2_method_7_code 71 = .ok (.iconst 1, 1) := by decide +kernel
theorem d_Disk_countWrite_72 : decode prog_2_method_7_code 72 = .ok (.iadd, 1) := by decide +kernel
theorem d_Disk_countWrite_73 : decode prog_2_method_7_code 73 = .ok (.putfield 45, 3) := by decide +kernel
theorem d_Disk_countWrite_76 : decode prog_2_method_7_code 76 = .ok (.return_, 1) := by decide +kernel
theorem d_Disk_put_0 : decode prog_2_method_4_code 0 = .ok (.iload_n 1, 1) := by decide +kernel
theorem d_Disk_put_1 : decode prog_2_method_4_code 1 = .ok (.ifCond .lt 23, 3) := by decide +kernel
theorem d_Disk_put_4 : decode prog_2_method_4_code 4 = .ok (.iload_n 1, 1) := by decide +kernel
theorem d_Disk_put_5 : decode prog_2_method_4_code 5 = .ok (.aload_n 0, 1) := by decide +kernel
theorem d_Disk_put_6 : decode prog_2_method_4_code 6 = .ok (.getfield 15, 3) := by decide +kernel
theorem d_Disk_put_9 : decode prog_2_method_4_code 9 = .ok (.arraylength, 1) := by decide +kernel
theorem d_Disk_put_10 : decode prog_2_method_4_code 10 = .ok (.if_icmp .ge 14, 3) := by decide +kernel
theorem d_Disk_put_13 : decode prog_2_method_4_code 13 = .ok (.aload_n 0, 1) := by decide +kernel
theorem d_Disk_put_14 : decode prog_2_method_4_code 14 = .ok (.getfield 15, 3) := by decide +kernel
theorem d_Disk_put_17 : decode prog_2_method_4_code 17 = .ok (.iload_n 1, 1) := by decide +kernel
theorem d_Disk_put_18 : decode prog_2_method_4_code 18 = .ok (.iload_n 2, 1) := by decide +kernel
theorem d_Disk_put_19 : decode prog_2_method_4_code 19 = .ok (.sipush 255, 3) := by decide +kernel
theorem d_Disk_put_22 : decode prog_2_method_4_code 22 = .ok (.iand, 1) := by decide +kernel
theorem d_Disk_put_23 : decode prog_2_method_4_code 23 = .ok (.iastore, 1) := by decide +kernel
theorem d_Disk_put_24 : decode prog_2_method_4_code 24 = .ok (.return_, 1) := by decide +kernel
theorem d_Disk_writePair_0 : decode prog_2_method_9_code 0 = .ok (.aload_n 0, 1) := by decide +kernel
theorem d_Disk_writePair_1 : decode prog_2_method_9_code 1 = .ok (.invokevirtual 48, 3) := by decide +kernel
theorem d_Disk_writePair_4 : decode prog_2_method_9_code 4 = .ok (.aload_n 0, 1) := by decide +kernel
theorem d_Disk_writePair_5 : decode prog_2_method_9_code 5 = .ok (.iload_n 1, 1) := by decide +kernel
theorem d_Disk_writePair_6 : decode prog_2_method_9_code 6 = .ok (.iload_n 2, 1) := by decide +kernel
theorem d_Disk_writePair_7 : decode prog_2_method_9_code 7 = .ok (.invokevirtual 51, 3) := by decide +kernel
theorem d_Disk_writePair_10 : decode prog_2_method_9_code 10 = .ok (.aload_n 0, 1) := by decide +kernel
theorem d_Disk_writePair_11 : decode prog_2_method_9_code 11 = .ok (.iload_n 1, 1) := by decide +kernel
theorem d_Disk_writePair_12 : decode prog_2_method_9_code 12 = .ok (.iconst 1, 1) := by decide +kernel
theorem d_Disk_writePair_13 : decode prog_2_method_9_code 13 = .ok (.iadd, 1) := by decide +kernel
theorem d_Disk_writePair_14 : decode prog_2_method_9_code 14 = .ok (.iload_n 2, 1) := by decide +kernel
theorem d_Disk_writePair_15 : decode prog_2_method_9_code 15 = .ok (.bipush 8, 2) := by decide +kernel
theorem d_Disk_writePair_17 : decode prog_2_method_9_code 17 = .ok (.ishr, 1) := by decide +kernel
theorem d_Disk_writePair_18 : decode prog_2_method_9_code 18 = .ok (.invokevirtual 51, 3) := by decide +kernel
theorem d_Disk_writePair_21 : decode prog_2_method_9_code 21 = .ok (.return_, 1) := by decide +kernel
theorem d_Table_set_0 : decode prog_7_method_4_code 0 = .ok (.aload_n 0, 1) := by decide +kernel
theorem d_Table_set_1 : decode prog_7_method_4_code 1 = .ok (.getfield 9, 3) := by decide +kernel
theorem d_Table_set_4 : decode prog_7_method_4_code 4 = .ok (.iconst 2, 1) := by decide +kernel
theorem d_Table_set_5 : decode prog_7_method_4_code 5 = .ok (.iload_n 1, 1) := by decide +kernel
theorem d_Table_set_6 : decode prog_7_method_4_code 6 = .ok (.imul, 1) := by decide +kernel
theorem d_Table_set_7 : decode prog_7_method_4_code 7 = .ok (.iload_n 2, 1) := by decide +kernel
theorem d_Table_set_8 : decode prog_7_method_4_code 8 = .ok (.invokevirtual 21, 3) := by decide +kernel
theorem d_Table_set_11 : decode prog_7_method_4_code 11 = .ok (.aload_n 0, 1) := by decide +kernel
theorem d_Table_set_12 : decode prog_7_method_4_code 12 = .ok (.getfield 9, 3) := by decide +kernel
theorem d_Table_set_15 : decode prog_7_method_4_code 15 = .ok (.sipush 128, 3) := by decide +kernel
theorem d_Table_set_18 : decode prog_7_method_4_code 18 = .ok (.iconst 2, 1) := by decide +kernel
theorem d_Table_set_19 : decode prog_7_method_4_code 19 = .ok (.iload_n 1, 1) := by decide +kernel
theorem d_Table_set_20 : decode prog_7_method_4_code 20 = .ok (.imul, 1) := by decide +kernel
theorem d_Table_set_21 : decode prog_7_method_4_code 21 = .ok (.iadd, 1) := by decide +kernel
theorem d_Table_set_22 : decode prog_7_method_4_code 22 = .ok (.iload_n 2, 1) := by decide +kernel
theorem d_Table_set_23 : decode prog_7_method_4_code 23 = .ok (.invokevirtual 21, 3) := by decide +kernel
theorem d_Table_set_26 : decode prog_7_method_4_code 26 = .ok (.return_, 1) := by decide +kernel
theorem d_Disk_clearSector_0 : decode prog_2_method_11_code 0 = .ok (.aload_n 0, 1) := by decide +kernel
theorem d_Disk_clearSector_1 : decode prog_2_method_11_code 1 = .ok (.invokevirtual 48, 3) := by decide +kernel
theorem d_Disk_clearSector_4 : decode prog_2_method_11_code 4 = .ok (.iconst 0, 1) := by decide +kernel
theorem d_Disk_clearSector_5 : decode prog_2_method_11_code 5 = .ok (.istore_n 2, 1) := by decide +kernel
theorem d_Disk_clearSector_6 : decode prog_2_method_11_code 6 = .ok (.iload_n 2, 1) := by decide +kernel
theorem d_Disk_clearSector_7 : decode prog_2_method_11_code 7 = .ok (.bipush 32, 2) := by decide +kernel
theorem d_Disk_clearSector_9 : decode prog_2_method_11_code 9 = .ok (.if_icmp .ge 20, 3) := by decide +kernel
theorem d_Disk_clearSector_12 : decode prog_2_method_11_code 12 = .ok (.aload_n 0, 1) := by decide +kernel
theorem d_Disk_clearSector_13 : decode prog_2_method_11_code 13 = .ok (.iload_n 1, 1) := by decide +kernel
theorem d_Disk_clearSector_14 : decode prog_2_method_11_code 14 = .ok (.bipush 32, 2) := by decide +kernel
theorem d_Disk_clearSector_16 : decode prog_2_method_11_code 16 = .ok (.imul, 1) := by decide +kernel
theorem d_Disk_clearSector_17 : decode prog_2_method_11_code 17 = .ok (.iload_n 2, 1) := by decide +kernel
theorem d_Disk_clearSector_18 : decode prog_2_method_11_code 18 = .ok (.iadd, 1) := by decide +kernel
theorem d_Disk_clearSector_19 : decode prog_2_method_11_code 19 = .ok (.iconst 0, 1) := by decide +kernel
theorem d_Disk_clearSector_20 : decode prog_2_method_11_code 20 = .ok (.invokevirtual 51, 3) := by decide +kernel
theorem d_Disk_clearSector_23 : decode prog_2_method_11_code 23 = .ok (.iinc 2 1, 3) := by decide +kernel
theorem d_Disk_clearSector_26 : decode prog_2_method_11_code 26 = .ok (.goto (-20), 3) := by decide +kernel
theorem d_Disk_clearSector_29 : decode prog_2_method_11_code 29 = .ok (.return_, 1) := by decide +kernel
theorem d_Table_take_0 : decode prog_7_method_9_code 0 = .ok (.aload_n 0, 1) := by decide +kernel
theorem d_Table_take_1 : decode prog_7_method_9_code 1 = .ok (.invokevirtual 32, 3) := by decide +kernel
theorem d_Table_take_4 : decode prog_7_method_9_code 4 = .ok (.istore_n 1, 1) := by decide +kernel
theorem d_Table_take_5 : decode prog_7_method_9_code 5 = .ok (.iload_n 1, 1) := by decide +kernel
theorem d_Table_take_6 : decode prog_7_method_9_code 6 = .ok (.ifCond .eq 21, 3) := by decide +kernel
theorem d_Table_take_9 : decode prog_7_method_9_code 9 = .ok (.aload_n 0, 1) := by decide +kernel
theorem d_Table_take_10 : decode prog_7_method_9_code 10 = .ok (.iload_n 1, 1) := by decide +kernel
theorem d_Table_take_11 : decode prog_7_method_9_code 11 = .ok (.ldc 36, 2) := by decide +kernel
theorem d_Table_take_13 : decode prog_7_method_9_code 13 = .ok (.invokevirtual 37, 3) := by decide +kernel
theorem d_Table_take_16 : decode prog_7_method_9_code 16 = .ok (.aload_n 0, 1) := by decide +kernel
theorem d_Table_take_17 : decode prog_7_method_9_code 17 = .ok (.getfield 9, 3) := by decide +kernel
theorem d_Table_take_20 : decode prog_7_method_9_code 20 = .ok (.iload_n 1, 1) := by decide +kernel
theorem d_Table_take_21 : decode prog_7_method_9_code 21 = .ok (.invokestatic 40, 3) := by decide +kernel
theorem d_Table_take_24 : decode prog_7_method_9_code 24 = .ok (.invokevirtual 43, 3) := by decide +kernel
theorem d_Table_take_27 : decode prog_7_method_9_code 27 = .ok (.iload_n 1, 1) := by decide +kernel
theorem d_Table_take_28 : decode prog_7_method_9_code 28 = .ok (.ireturn, 1) := by decide +kernel
theorem d_Folder_isFree_0 : decode prog_3_method_6_code 0 = .ok (.aload_n 0, 1) := by decide +kernel
theorem d_Folder_isFree_1 : decode prog_3_method_6_code 1 = .ok (.iload_n 1, 1) := by decide +kernel
theorem d_Folder_isFree_2 : decode prog_3_method_6_code 2 = .ok (.iconst 0, 1) := by decide +kernel
theorem d_Folder_isFree_3 : decode prog_3_method_6_code 3 = .ok (.invokevirtual 51, 3) := by decide +kernel
theorem d_Folder_isFree_6 : decode prog_3_method_6_code 6 = .ok (.istore_n 2, 1) := by decide +kernel
theorem d_Folder_isFree_7 : decode prog_3_method_6_code 7 = .ok (.iload_n 2, 1) := by decide +kernel
theorem d_Folder_isFree_8 : decode prog_3_method_6_code 8 = .ok (.ifCond .eq 10, 3) := by decide +kernel
theorem d_Folder_isFree_11 : decode prog_3_method_6_code 11 = .ok (.iload_n 2, 1) := by decide +kernel
theorem d_Folder_isFree_12 : decode prog_3_method_6_code 12 = .ok (.sipush 229, 3) := by decide +kernel
theorem d_Folder_isFree_15 : decode prog_3_method_6_code 15 = .ok (.if_icmp .ne 7, 3) := by decide +kernel
theorem d_Folder_isFree_18 : decode prog_3_method_6_code 18 = .ok (.iconst 1, 1) := by decide +kernel
theorem d_Folder_isFree_19 : decode prog_3_method_6_code 19 = .ok (.goto 4, 3) := by decide +kernel
theorem d_Folder_isFree_22 : decode prog_3_method_6_code 22 = .ok (.iconst 0, 1) := by decide +kernel
theorem d_Folder_isFree_23 : decode prog_3_method_6_code 23 = .ok (.ireturn, 1) := by decide +kernel
theorem d_Folder_findFreeRow_0 : decode prog_3_method_12_code 0 = .ok (.iconst 0, 1) := by decide +kernel
theorem d_Folder_findFreeRow_1 : decode prog_3_method_12_code 1 = .ok (.istore_n 2, 1) := by decide +kernel
theorem d_Folder_findFreeRow_2 : decode prog_3_method_12_code 2 = .ok (.iconst 0, 1) := by decide +kernel
theorem d_Folder_findFreeRow_3 : decode prog_3_method_12_code 3 = .ok (.istore_n 3, 1) := by decide +kernel
theorem d_Folder_findFreeRow_4 : decode prog_3_method_12_code 4 = .ok (.iload_n 3, 1) := by decide +kernel
theorem d_Folder_findFreeRow_5 : decode prog_3_method_12_code 5 = .ok (.aload_n 0, 1) := by decide +kernel
theorem d_Folder_findFreeRow_6 : decode prog_3_method_12_code 6 = .ok (.getfield 23, 3) := by decide +kernel
theorem d_Folder_findFreeRow_9 : decode prog_3_method_12_code 9 = .ok (.if_icmp .ge 36, 3) := by decide +kernel
theorem d_Folder_findFreeRow_12 : decode prog_3_method_12_code 12 = .ok (.aload_n 0, 1) := by decide +kernel
theorem d_Folder_findFreeRow_13 : decode prog_3_method_12_code 13 = .ok (.iload_n 3, 1) := by decide +kernel
theorem d_Folder_findFreeRow_14 : decode prog_3_method_12_code 14 = .ok (.invokevirtual 58, 3) := by decide +kernel
theorem d_Folder_findFreeRow_17 : decode prog_3_method_12_code 17 = .ok (.ifCond .eq 9, 3) := by decide +kernel
theorem d_Folder_findFreeRow_20 : decode prog_3_method_12_code 20 = .ok (.iload_n 2, 1) := by decide +kernel
theorem d_Folder_findFreeRow_21 : decode prog_3_method_12_code 21 = .ok (.iconst 1, 1) := by decide +kernel
theorem d_Folder_findFreeRow_22 : decode prog_3_method_12_code 22 = .ok (.iadd, 1) := by decide +kernel
theorem d_Folder_findFreeRow_23 : decode prog_3_method_12_code 23 = .ok (.goto 4, 3) := by decide +kernel
theorem d_Folder_findFreeRow_26 : decode prog_3_method_12_code 26 = .ok (.iconst 0, 1) := by decide +kernel
theorem d_Folder_findFreeRow_27 : decode prog_3_method_12_code 27 = .ok (.istore_n 2, 1) := by decide +kernel
theorem d_Folder_findFreeRow_28 : decode prog_3_method_12_code 28 = .ok (.iload_n 2, 1) := by decide +kernel
theorem d_Folder_findFreeRow_29 : decode prog_3_method_12_code 29 = .ok (.iload_n 1, 1) := by decide +kernel
theorem d_Folder_findFreeRow_30 : decode prog_3_method_12_code 30 = .ok (.if_icmp .ne 9, 3) := by decide +kernel
theorem d_Folder_findFreeRow_33 : decode prog_3_method_12_code 33 = .ok (.iload_n 3, 1) := by decide +kernel
theorem d_Folder_findFreeRow_34 : decode prog_3_method_12_code 34 = .ok (.iload_n 1, 1) := by decide +kernel
theorem d_Folder_findFreeRow_35 : decode prog_3_method_12_code 35 = .ok (.isub, 1) := by decide +kernel
theorem d_Folder_findFreeRow_36 : decode prog_3_method_12_code 36 = .ok (.iconst 1, 1) := by decide +kernel
theorem d_Folder_findFreeRow_37 : decode prog_3_method_12_code 37 = .ok (.iadd, 1) := by decide +kernel
theorem d_Folder_findFreeRow_38 : decode prog_3_method_12_code 38 = .ok (.ireturn, 1) := by decide +kernel
theorem d_Folder_findFreeRow_39 : decode prog_3_method_12_code 39 = .ok (.iinc 3 1, 3) := by decide +kernel
theorem d_Folder_findFreeRow_42 : decode prog_3_method_12_code 42 = .ok (.goto (-38), 3) := by decide +kernel
theorem d_Folder_findFreeRow_45 : decode prog_3_method_12_code 45 = .ok (.iconst (-1), 1) := by decide +kernel
theorem d_Folder_findFreeRow_46 : decode prog_3_method_12_code 46 = .ok (.ireturn, 1) := by decide +kernel
theorem d_V_makeFreeRow_0 : decode prog_1_method_19_code 0 = .ok (.iconst 0, 1) := by decide +kernel
theorem d_V_makeFreeRow_1 : decode prog_1_method_19_code 1 = .ok (.istore_n 2, 1) := by decide +kernel
theorem d_V_makeFreeRow_2 : decode prog_1_method_19_code 2 = .ok (.iload_n 2, 1) := by decide +kernel
theorem d_V_makeFreeRow_3 : decode prog_1_method_19_code 3 = .ok (.bipush 64, 2) := by decide +kernel
theorem d_V_makeFreeRow_5 : decode prog_1_method_19_code 5 = .ok (.if_icmp .gt 71, 3) := by decide +kernel
theorem d_V_makeFreeRow_8 : decode prog_1_method_19_code 8 = .ok (.aload_n 0, 1) := by decide +kernel
theorem d_V_makeFreeRow_9 : decode prog_1_method_19_code 9 = .ok (.getfield 39, 3) := by decide +kernel
theorem d_V_makeFreeRow_12 : decode prog_1_method_19_code 12 = .ok (.iload_n 1, 1) := by decide +kernel
theorem d_V_makeFreeRow_13 : decode prog_1_method_19_code 13 = .ok (.invokevirtual 310, 3) := by decide +kernel
theorem d_V_makeFreeRow_16 : decode prog_1_method_19_code 16 = .ok (.istore_n 3, 1) := by decide +kernel
theorem d_V_makeFreeRow_17 : decode prog_1_method_19_code 17 = .ok (.iload_n 3, 1) := by decide +kernel
theorem d_V_makeFreeRow_18 : decode prog_1_method_19_code 18 = .ok (.iconst (-1), 1) := by decide +kernel
theorem d_V_makeFreeRow_19 : decode prog_1_method_19_code 19 = .ok (.if_icmp .eq 5, 3) := by decide +kernel
theorem d_V_makeFreeRow_22 : decode prog_1_method_19_code 22 = .ok (.iload_n 3, 1) := by decide +kernel
theorem d_V_makeFreeRow_23 : decode prog_1_method_19_code 23 = .ok (.ireturn, 1) := by decide +kernel
theorem d_V_makeFreeRow_24 : decode prog_1_method_19_code 24 = .ok (.aload_n 0, 1) := by decide +kernel
theorem d_V_makeFreeRow_25 : decode prog_1_method_19_code 25 = .ok (.getfield 30, 3) := by decide +kernel
theorem d_V_makeFreeRow_28 : decode prog_1_method_19_code 28 = .ok (.invokevirtual 111, 3) := by decide +kernel
theorem d_V_makeFreeRow_31 : decode prog_1_method_19_code 31 = .ok (.istore 4, 2) := by decide +kernel
theorem d_V_makeFreeRow_33 : decode prog_1_method_19_code 33 = .ok (.iload 4, 2) := by decide +kernel
theorem d_V_makeFreeRow_35 : decode prog_1_method_19_code 35 = .ok (.ifCond .ne 5, 3) := by decide +kernel
theorem d_V_makeFreeRow_38 : decode prog_1_method_19_code 38 = .ok (.iconst (-1), 1) := by decide +kernel
theorem d_V_makeFreeRow_39 : decode prog_1_method_19_code 39 = .ok (.ireturn, 1) := by decide +kernel
theorem d_V_makeFreeRow_40 : decode prog_1_method_19_code 40 = .ok (.aload_n 0, 1) := by decide +kernel
theorem d_V_makeFreeRow_41 : decode prog_1_method_19_code 41 = .ok (.getfield 30, 3) := by decide +kernel
theorem d_V_makeFreeRow_44 : decode prog_1_method_19_code 44 = .ok (.aload_n 0, 1) := by decide +kernel
theorem d_V_makeFreeRow_45 : decode prog_1_method_19_code 45 = .ok (.getfield 39, 3) := by decide +kernel
theorem d_V_makeFreeRow_48 : decode prog_1_method_19_code 48 = .ok (.getfield 313, 3) := by decide +kernel
theorem d_V_makeFreeRow_51 : decode prog_1_method_19_code 51 = .ok (.iload 4, 2) := by decide +kernel
theorem d_V_makeFreeRow_53 : decode prog_1_method_19_code 53 = .ok (.invokevirtual 316, 3) := by decide +kernel
theorem d_V_makeFreeRow_56 : decode prog_1_method_19_code 56 = .ok (.aload_n 0, 1) := by decide +kernel
theorem d_V_makeFreeRow_57 : decode prog_1_method_19_code 57 = .ok (.getfield 39, 3) := by decide +kernel
theorem d_V_makeFreeRow_60 : decode prog_1_method_19_code 60 = .ok (.aload_n 0, 1) := by decide +kernel
theorem d_V_makeFreeRow_61 : decode prog_1_method_19_code 61 = .ok (.getfield 12, 3) := by decide +kernel
theorem d_V_makeFreeRow_64 : decode prog_1_method_19_code 64 = .ok (.getfield 87, 3) := by decide +kernel
theorem d_V_makeFreeRow_67 : decode prog_1_method_19_code 67 = .ok (.invokevirtual 91, 3) := by decide +kernel
theorem d_V_makeFreeRow_70 : decode prog_1_method_19_code 70 = .ok (.iinc 2 1, 3) := by decide +kernel
theorem d_V_makeFreeRow_73 : decode prog_1_method_19_code 73 = .ok (.goto (-71), 3) := by decide +kernel
theorem d_V_makeFreeRow_76 : decode prog_1_method_19_code 76 = .ok (.iconst (-1), 1) := by decide +kernel
theorem d_V_makeFreeRow_77 : decode prog_1_method_19_code 77 = .ok (.ireturn, 1) := by decide +kernel
theorem d_Name_sum_0 : decode prog_4_method_8_code 0 = .ok (.iconst 0, 1) := by decide +kernel
theorem d_Name_sum_1 : decode prog_4_method_8_code 1 = .ok (.istore_n 1, 1) := by decide +kernel
theorem d_Name_sum_2 : decode prog_4_method_8_code 2 = .ok (.iconst 0, 1) := by decide +kernel
theorem d_Name_sum_3 : decode prog_4_method_8_code 3 = .ok (.istore_n 2, 1) := by decide +kernel
theorem d_Name_sum_4 : decode prog_4_method_8_code 4 = .ok (.iload_n 2, 1) := by decide +kernel
theorem d_Name_sum_5 : decode prog_4_method_8_code 5 = .ok (.bipush 6, 2) := by decide +kernel
theorem d_Name_sum_7 : decode prog_4_method_8_code 7 = .ok (.if_icmp .ge 20, 3) := by decide +kernel
theorem d_Name_sum_10 : decode prog_4_method_8_code 10 = .ok (.iload_n 1, 1) := by decide +kernel
theorem d_Name_sum_11 : decode prog_4_method_8_code 11 = .ok (.aload_n 0, 1) := by decide +kernel
theorem d_Name_sum_12 : decode prog_4_method_8_code 12 = .ok (.getfield 15, 3) := by decide +kernel
theorem d_Name_sum_15 : decode prog_4_method_8_code 15 = .ok (.iload_n 2, 1) := by decide +kernel
theorem d_Name_sum_16 : decode prog_4_method_8_code 16 = .ok (.iaload, 1) := by decide +kernel
theorem d_Name_sum_17 : decode prog_4_method_8_code 17 = .ok (.invokestatic 58, 3) := by decide +kernel
theorem d_Name_sum_20 : decode prog_4_method_8_code 20 = .ok (.istore_n 1, 1) := by decide +kernel
theorem d_Name_sum_21 : decode prog_4_method_8_code 21 = .ok (.iinc 2 1, 3) := by decide +kernel
theorem d_Name_sum_24 : decode prog_4_method_8_code 24 = .ok (.goto (-20), 3) := by decide +kernel
theorem d_Name_sum_27 : decode prog_4_method_8_code 27 = .ok (.iload_n 1, 1) := by decide +kernel
theorem d_Name_sum_28 : decode prog_4_method_8_code 28 = .ok (.ireturn, 1) := by decide +kernel
theorem d_Name_fillPart_0 : decode prog_4_method_9_code 0 = .ok (.aload_n 2, 1) := by decide +kernel
theorem d_Name_fillPart_1 : decode prog_4_method_9_code 1 = .ok (.arraylength, 1) := by decide +kernel
theorem d_Name_fillPart_2 : decode prog_4_method_9_code 2 = .ok (.bipush 16, 2) := by decide +kernel
theorem d_Name_fillPart_4 : decode prog_4_method_9_code 4 = .ok (.if_icmp .ge 4, 3) := by decide +kernel
theorem d_Name_fillPart_7 : decode prog_4_method_9_code 7 = .ok (.return_, 1) := by decide +kernel
theorem d_Name_fillPart_8 : decode prog_4_method_9_code 8 = .ok (.aload_n 2, 1) := by decide +kernel
theorem d_Name_fillPart_9 : decode prog_4_method_9_code 9 = .ok (.iconst 0, 1) := by decide +kernel
theorem d_Name_fillPart_10 : decode prog_4_method_9_code 10 = .ok (.iload_n 1, 1) := by decide +kernel
theorem d_Name_fillPart_11 : decode prog_4_method_9_code 11 = .ok (.aload_n 0, 1) := by decide +kernel
theorem d_Name_fillPart_12 : decode prog_4_method_9_code 12 = .ok (.getfield 43, 3) := by decide +kernel
theorem d_Name_fillPart_15 : decode prog_4_method_9_code 15 = .ok (.if_icmp .ne 10, 3) := by decide +kernel
theorem d_Name_fillPart_18 : decode prog_4_method_9_code 18 = .ok (.iload_n 1, 1) := by decide +kernel
theorem d_Name_fillPart_19 : decode prog_4_method_9_code 19 = .ok (.bipush 64, 2) := by decide +kernel
theorem d_Name_fillPart_21 : decode prog_4_method_9_code 21 = .ok (.iadd, 1) := by decide +kernel
theorem d_Name_fillPart_22 : decode prog_4_method_9_code 22 = .ok (.goto 4, 3) := by decide +kernel
theorem d_Name_fillPart_25 : decode prog_4_method_9_code 25 = .ok (.iload_n 1, 1) := by decide +kernel
theorem d_Name_fillPart_26 : decode prog_4_method_9_code 26 = .ok (.iastore, 1) := by decide +kernel
theorem d_Name_fillPart_27 : decode prog_4_method_9_code 27 = .ok (.aload_n 2, 1) := by decide +kernel
theorem d_Name_fillPart_28 : decode prog_4_method_9_code 28 = .ok (.bipush 6, 2) := by decide +kernel
theorem d_Name_fillPart_30 : decode prog_4_method_9_code 30 = .ok (.bipush 15, 2) := by decide +kernel
theorem d_Name_fillPart_32 : decode prog_4_method_9_code 32 = .ok (.iastore, 1) := by decide +kernel
theorem d_Name_fillPart_33 : decode prog_4_method_9_code 33 = .ok (.aload_n 2, 1) := by decide +kernel
theorem d_Name_fillPart_34 : decode prog_4_method_9_code 34 = .ok (.bipush 7, 2) := by decide +kernel
theorem d_Name_fillPart_36 : decode prog_4_method_9_code 36 = .ok (.aload_n 0, 1) := by decide +kernel
theorem d_Name_fillPart_37 : decode prog_4_method_9_code 37 = .ok (.invokevirtual 62, 3) := by decide +kernel
theorem d_Name_fillPart_40 : decode prog_4_method_9_code 40 = .ok (.iastore, 1) := by decide +kernel
theorem d_Name_fillPart_41 : decode prog_4_method_9_code 41 = .ok (.iconst 0, 1) := by decide +kernel
theorem d_Name_fillPart_42 : decode prog_4_method_9_code 42 = .ok (.istore_n 3, 1) := by decide +kernel
theorem d_Name_fillPart_43 : decode prog_4_method_9_code 43 = .ok (.iload_n 3, 1) := by decide +kernel
theorem d_Name_fillPart_44 : decode prog_4_method_9_code 44 = .ok (.bipush 13, 2) := by decide +kernel
theorem d_Name_fillPart_46 : decode prog_4_method_9_code 46 = .ok (.if_icmp .ge 27, 3) := by decide +kernel
theorem d_Name_fillPart_49 : decode prog_4_method_9_code 49 = .ok (.aload_n 2, 1) := by decide +kernel
theorem d_Name_fillPart_50 : decode prog_4_method_9_code 50 = .ok (.iload_n 3, 1) := by decide +kernel
theorem d_Name_fillPart_51 : decode prog_4_method_9_code 51 = .ok (.invokestatic 66, 3) := by decide +kernel
theorem d_Name_fillPart_54 : decode prog_4_method_9_code 54 = .ok (.aload_n 0, 1) := by decide +kernel
theorem d_Name_fillPart_55 : decode prog_4_method_9_code 55 = .ok (.iload_n 1, 1) := by decide +kernel
theorem d_Name_fillPart_56 : decode prog_4_method_9_code 56 = .ok (.iconst 1, 1) := by decide +kernel
theorem d_Name_fillPart_57 : decode prog_4_method_9_code 57 = .ok (.isub, 1) := by decide +kernel
theorem d_Name_fillPart_58 : decode prog_4_method_9_code 58 = .ok (.bipush 13, 2) := by decide +kernel
theorem d_Name_fillPart_60 : decode prog_4_method_9_code 60 = .ok (.imul, 1) := by decide +kernel
theorem d_Name_fillPart_61 : decode prog_4_method_9_code 61 = .ok (.iload_n 3, 1) := by decide +kernel
theorem d_Name_fillPart_62 : decode prog_4_method_9_code 62 = .ok (.iadd, 1) := by decide +kernel
theorem d_Name_fillPart_63 : decode prog_4_method_9_code 63 = .ok (.invokevirtual 31, 3) := by decide +kernel
theorem d_Name_fillPart_66 : decode prog_4_method_9_code 66 = .ok (.iastore, 1) := by decide +kernel
theorem d_Name_fillPart_67 : decode prog_4_method_9_code 67 = .ok (.iinc 3 1, 3) := by decide +kernel
theorem d_Name_fillPart_70 : decode prog_4_method_9_code 70 = .ok (.goto (-27), 3) := by decide +kernel
theorem d_Name_fillPart_73 : decode prog_4_method_9_code 73 = .ok (.return_, 1) := by decide +kernel
theorem d_Folder_addressOf_0 : decode prog_3_method_3_code 0 = .ok (.iload_n 1, 1) := by decide +kernel
theorem d_Folder_addressOf_1 : decode prog_3_method_3_code 1 = .ok (.ifCond .lt 20, 3) := by decide +kernel
theorem d_Folder_addressOf_4 : decode prog_3_method_3_code 4 = .ok (.iload_n 1, 1) := by decide +kernel
theorem d_Folder_addressOf_5 : decode prog_3_method_3_code 5 = .ok (.aload_n 0, 1) := by decide +kernel
theorem d_Folder_addressOf_6 : decode prog_3_method_3_code 6 = .ok (.getfield 23, 3) := by decide +kernel
theorem d_Folder_addressOf_9 : decode prog_3_method_3_code 9 = .ok (.if_icmp .ge 12, 3) := by decide +kernel
theorem d_Folder_addressOf_12 : decode prog_3_method_3_code 12 = .ok (.aload_n 0, 1) := by decide +kernel
theorem d_Folder_addressOf_13 : decode prog_3_method_3_code 13 = .ok (.getfield 19, 3) := by decide +kernel
theorem d_Folder_addressOf_16 : decode prog_3_method_3_code 16 = .ok (.iload_n 1, 1) := by decide +kernel
theorem d_Folder_addressOf_17 : decode prog_3_method_3_code 17 = .ok (.iaload, 1) := by decide +kernel
theorem d_Folder_addressOf_18 : decode prog_3_method_3_code 18 = .ok (.goto 4, 3) := by decide +kernel
theorem d_Folder_addressOf_21 : decode prog_3_method_3_code 21 = .ok (.iconst (-1), 1) := by decide +kernel
theorem d_Folder_addressOf_22 : decode prog_3_method_3_code 22 = .ok (.ireturn, 1) := by decide +kernel
theorem d_Disk_writeRow_0 : decode prog_2_method_10_code 0 = .ok (.aload_n 0, 1) := by decide +kernel
theorem d_Disk_writeRow_1 : decode prog_2_method_10_code 1 = .ok (.invokevirtual 48, 3) := by decide +kernel
theorem d_Disk_writeRow_4 : decode prog_2_method_10_code 4 = .ok (.iconst 0, 1) := by decide +kernel
theorem d_Disk_writeRow_5 : decode prog_2_method_10_code 5 = .ok (.istore 5, 2) := by decide +kernel
theorem d_Disk_writeRow_7 : decode prog_2_method_10_code 7 = .ok (.iload 5, 2) := by decide +kernel
theorem d_Disk_writeRow_9 : decode prog_2_method_10_code 9 = .ok (.iload 4, 2) := by decide +kernel
theorem d_Disk_writeRow_11 : decode prog_2_method_10_code 11 = .ok (.if_icmp .ge 39, 3) := by decide +kernel
theorem d_Disk_writeRow_14 : decode prog_2_method_10_code 14 = .ok (.iload_n 3, 1) := by decide +kernel
theorem d_Disk_writeRow_15 : decode prog_2_method_10_code 15 = .ok (.iload 5, 2) := by decide +kernel
theorem d_Disk_writeRow_17 : decode prog_2_method_10_code 17 = .ok (.iadd, 1) := by decide +kernel
theorem d_Disk_writeRow_18 : decode prog_2_method_10_code 18 = .ok (.istore 6, 2) := by decide +kernel
theorem d_Disk_writeRow_20 : decode prog_2_method_10_code 20 = .ok (.iload 6, 2) := by decide +kernel
theorem d_Disk_writeRow_22 : decode prog_2_method_10_code 22 = .ok (.ifCond .lt 22, 3) := by decide +kernel
theorem d_Disk_writeRow_25 : decode prog_2_method_10_code 25 = .ok (.iload 6, 2) := by decide +kernel
theorem d_Disk_writeRow_27 : decode prog_2_method_10_code 27 = .ok (.aload_n 2, 1) := by decide +kernel
theorem d_Disk_writeRow_28 : decode prog_2_method_10_code 28 = .ok (.arraylength, 1) := by decide +kernel
theorem d_Disk_writeRow_29 : decode prog_2_method_10_code 29 = .ok (.if_icmp .ge 15, 3) := by decide +kernel
theorem d_Disk_writeRow_32 : decode prog_2_method_10_code 32 = .ok (.aload_n 0, 1) := by decide +kernel
theorem d_Disk_writeRow_33 : decode prog_2_method_10_code 33 = .ok (.iload_n 1, 1) := by decide +kernel
theorem d_Disk_writeRow_34 : decode prog_2_method_10_code 34 = .ok (.iload 5, 2) := by decide +kernel
theorem d_Disk_writeRow_36 : decode prog_2_method_10_code 36 = .ok (.iadd, 1) := by decide +kernel
theorem d_Disk_writeRow_37 : decode prog_2_method_10_code 37 = .ok (.aload_n 2, 1) := by decide +kernel
theorem d_Disk_writeRow_38 : decode prog_2_method_10_code 38 = .ok (.iload 6, 2) := by decide +kernel
theorem d_Disk_writeRow_40 : decode prog_2_method_10_code 40 = .ok (.iaload, 1) := by decide +kernel
theorem d_Disk_writeRow_41 : decode prog_2_method_10_code 41 = .ok (.invokevirtual 51, 3) := by decide +kernel
theorem d_Disk_writeRow_44 : decode prog_2_method_10_code 44 = .ok (.iinc 5 1, 3) := by decide +kernel
theorem d_Disk_writeRow_47 : decode prog_2_method_10_code 47 = .ok (.goto (-40), 3) := by decide +kernel
theorem d_Disk_writeRow_50 : decode prog_2_method_10_code 50 = .ok (.return_, 1) := by decide +kernel
theorem d_Name_fillEntry_0 : decode prog_4_method_10_code 0 = .ok (.aload_n 3, 1) := by decide +kernel
theorem d_Name_fillEntry_1 : decode prog_4_method_10_code 1 = .ok (.arraylength, 1) := by decide +kernel
theorem d_Name_fillEntry_2 : decode prog_4_method_10_code 2 = .ok (.bipush 16, 2) := by decide +kernel
theorem d_Name_fillEntry_4 : decode prog_4_method_10_code 4 = .ok (.if_icmp .ge 4, 3) := by decide +kernel
theorem d_Name_fillEntry_7 : decode prog_4_method_10_code 7 = .ok (.return_, 1) := by decide +kernel
theorem d_Name_fillEntry_8 : decode prog_4_method_10_code 8 = .ok (.iconst 0, 1) := by decide +kernel
theorem d_Name_fillEntry_9 : decode prog_4_method_10_code 9 = .ok (.istore 4, 2) := by decide +kernel
theorem d_Name_fillEntry_11 : decode prog_4_method_10_code 11 = .ok (.iload 4, 2) := by decide +kernel
theorem d_Name_fillEntry_13 : decode prog_4_method_10_code 13 = .ok (.bipush 16, 2) := by decide +kernel
theorem d_Name_fillEntry_15 : decode prog_4_method_10_code 15 = .ok (.if_icmp .ge 31, 3) := by decide +kernel
theorem d_Name_fillEntry_18 : decode prog_4_method_10_code 18 = .ok (.aload_n 3, 1) := by decide +kernel
theorem d_Name_fillEntry_19 : decode prog_4_method_10_code 19 = .ok (.iload 4, 2) := by decide +kernel
theorem d_Name_fillEntry_21 : decode prog_4_method_10_code 21 = .ok (.iload 4, 2) := by decide +kernel
theorem d_Name_fillEntry_23 : decode prog_4_method_10_code 23 = .ok (.bipush 6, 2) := by decide +kernel
theorem d_Name_fillEntry_25 : decode prog_4_method_10_code 25 = .ok (.if_icmp .ge 13, 3) := by decide +kernel
theorem d_Name_fillEntry_28 : decode prog_4_method_10_code 28 = .ok (.aload_n 0, 1) := by decide +kernel
theorem d_Name_fillEntry_29 : decode prog_4_method_10_code 29 = .ok (.getfield 15, 3) := by decide +kernel
theorem d_Name_fillEntry_32 : decode prog_4_method_10_code 32 = .ok (.iload 4, 2) := by decide +kernel
theorem d_Name_fillEntry_34 : decode prog_4_method_10_code 34 = .ok (.iaload, 1) := by decide +kernel
theorem d_Name_fillEntry_35 : decode prog_4_method_10_code 35 = .ok (.goto 4, 3) := by decide +kernel
theorem d_Name_fillEntry_38 : decode prog_4_method_10_code 38 = .ok (.iconst 0, 1) := by decide +kernel
theorem d_Name_fillEntry_39 : decode prog_4_method_10_code 39 = .ok (.iastore, 1) := by decide +kernel
theorem d_Name_fillEntry_40 : decode prog_4_method_10_code 40 = .ok (.iinc 4 1, 3) := by decide +kernel
theorem d_Name_fillEntry_43 : decode prog_4_method_10_code 43 = .ok (.goto (-32), 3) := by decide +kernel
theorem d_Name_fillEntry_46 : decode prog_4_method_10_code 46 = .ok (.aload_n 3, 1) := by decide +kernel
theorem d_Name_fillEntry_47 : decode prog_4_method_10_code 47 = .ok (.bipush 6, 2) := by decide +kernel
theorem d_Name_fillEntry_49 : decode prog_4_method_10_code 49 = .ok (.iload_n 1, 1) := by decide +kernel
theorem d_Name_fillEntry_50 : decode prog_4_method_10_code 50 = .ok (.iastore, 1) := by decide +kernel
theorem d_Name_fillEntry_51 : decode prog_4_method_10_code 51 = .ok (.aload_n 3, 1) := by decide +kernel
theorem d_Name_fillEntry_52 : decode prog_4_method_10_code 52 = .ok (.bipush 8, 2) := by decide +kernel
theorem d_Name_fillEntry_54 : decode prog_4_method_10_code 54 = .ok (.iload_n 2, 1) := by decide +kernel
theorem d_Name_fillEntry_55 : decode prog_4_method_10_code 55 = .ok (.iastore, 1) := by decide +kernel
theorem d_Name_fillEntry_56 : decode prog_4_method_10_code 56 = .ok (.return_, 1) := by decide +kernel
theorem d_V_writeEntries_0 : decode prog_1_method_20_code 0 = .ok (.iconst 0, 1) := by decide +kernel
theorem d_V_writeEntries_1 : decode prog_1_method_20_code 1 = .ok (.istore 4, 2) := by decide +kernel
theorem d_V_writeEntries_3 : decode prog_1_method_20_code 3 = .ok (.iload 4, 2) := by decide +kernel
theorem d_V_writeEntries_5 : decode prog_1_method_20_code 5 = .ok (.aload_n 0, 1) := by decide +kernel
theorem d_V_writeEntries_6 : decode prog_1_method_20_code 6 = .ok (.getfield 58, 3) := by decide +kernel
theorem d_V_writeEntries_9 : decode prog_1_method_20_code 9 = .ok (.getfield 117, 3) := by decide +kernel
theorem d_V_writeEntries_12 : decode prog_1_method_20_code 12 = .ok (.if_icmp .ge 55, 3) := by decide +kernel
theorem d_V_writeEntries_15 : decode prog_1_method_20_code 15 = .ok (.aload_n 0, 1) := by decide +kernel
theorem d_V_writeEntries_16 : decode prog_1_method_20_code 16 = .ok (.getfield 58, 3) := by decide +kernel
theorem d_V_writeEntries_19 : decode prog_1_method_20_code 19 = .ok (.aload_n 0, 1) := by decide +kernel
theorem d_V_writeEntries_20 : decode prog_1_method_20_code 20 = .ok (.getfield 58, 3) := by decide +kernel
theorem d_V_writeEntries_23 : decode prog_1_method_20_code 23 = .ok (.getfield 117, 3) := by decide +kernel
theorem d_V_writeEntries_26 : decode prog_1_method_20_code 26 = .ok (.iload 4, 2) := by decide +kernel
theorem d_V_writeEntries_28 : decode prog_1_method_20_code 28 = .ok (.isub, 1) := by decide +kernel
theorem d_V_writeEntries_29 : decode prog_1_method_20_code 29 = .ok (.aload_n 0, 1) := by decide +kernel
theorem d_V_writeEntries_30 : decode prog_1_method_20_code 30 = .ok (.getfield 62, 3) := by decide +kernel
theorem d_V_writeEntries_33 : decode prog_1_method_20_code 33 = .ok (.invokevirtual 319, 3) := by decide +kernel
theorem d_V_writeEntries_36 : decode prog_1_method_20_code 36 = .ok (.aload_n 0, 1) := by decide +kernel
theorem d_V_writeEntries_37 : decode prog_1_method_20_code 37 = .ok (.getfield 21, 3) := by decide +kernel
theorem d_V_writeEntries_40 : decode prog_1_method_20_code 40 = .ok (.aload_n 0, 1) := by decide +kernel
theorem d_V_writeEntries_41 : decode prog_1_method_20_code 41 = .ok (.getfield 39, 3) := by decide +kernel
theorem d_V_writeEntries_44 : decode prog_1_method_20_code 44 = .ok (.iload_n 1, 1) := by decide +kernel
theorem d_V_writeEntries_45 : decode prog_1_method_20_code 45 = .ok (.iload 4, 2) := by decide +kernel
theorem d_V_writeEntries_47 : decode prog_1_method_20_code 47 = .ok (.iadd, 1) := by decide +kernel
theorem d_V_writeEntries_48 : decode prog_1_method_20_code 48 = .ok (.invokevirtual 166, 3) := by decide +kernel
theorem d_V_writeEntries_51 : decode prog_1_method_20_code 51 = .ok (.aload_n 0, 1) := by decide +kernel
theorem d_V_writeEntries_52 : decode prog_1_method_20_code 52 = .ok (.getfield 62, 3) := by decide +kernel
theorem d_V_writeEntries_55 : decode prog_1_method_20_code 55 = .ok (.iconst 0, 1) := by decide +kernel
theorem d_V_writeEntries_56 : decode prog_1_method_20_code 56 = .ok (.bipush 16, 2) := by decide +kernel
theorem d_V_writeEntries_58 : decode prog_1_method_20_code 58 = .ok (.invokevirtual 323, 3) := by decide +kernel
theorem d_V_writeEntries_61 : decode prog_1_method_20_code 61 = .ok (.iinc 4 1, 3) := by decide +kernel
theorem d_V_writeEntries_64 : decode prog_1_method_20_code 64 = .ok (.goto (-61), 3) := by decide +kernel
theorem d_V_writeEntries_67 : decode prog_1_method_20_code 67 = .ok (.aload_n 0, 1) := by decide +kernel
theorem d_V_writeEntries_68 : decode prog_1_method_20_code 68 = .ok (.getfield 58, 3) := by decide +kernel
theorem d_V_writeEntries_71 : decode prog_1_method_20_code 71 = .ok (.iload_n 2, 1) := by decide +kernel
theorem d_V_writeEntries_72 : decode prog_1_method_20_code 72 = .ok (.iload_n 3, 1) := by decide +kernel
theorem d_V_writeEntries_73 : decode prog_1_method_20_code 73 = .ok (.aload_n 0, 1) := by decide +kernel
theorem d_V_writeEntries_74 : decode prog_1_method_20_code 74 = .ok (.getfield 62, 3) := by decide +kernel
theorem d_V_writeEntries_77 : decode prog_1_method_20_code 77 = .ok (.invokevirtual 327, 3) := by decide +kernel
theorem d_V_writeEntries_80 : decode prog_1_method_20_code 80 = .ok (.aload_n 0, 1) := by decide +kernel
theorem d_V_writeEntries_81 : decode prog_1_method_20_code 81 = .ok (.getfield 21, 3) := by decide +kernel
theorem d_V_writeEntries_84 : decode prog_1_method_20_code 84 = .ok (.aload_n 0, 1) := by decide +kernel
theorem d_V_writeEntries_85 : decode prog_1_method_20_code 85 = .ok (.getfield 39, 3) := by decide +kernel
theorem d_V_writeEntries_88 : decode prog_1_method_20_code 88 = .ok (.iload_n 1, 1) := by decide +kernel
theorem d_V_writeEntries_89 : decode prog_1_method_20_code 89 = .ok (.aload_n 0, 1) := by decide +kernel
theorem d_V_writeEntries_90 : decode prog_1_method_20_code 90 = .ok (.getfield 58, 3) := by decide +kernel
theorem d_V_writeEntries_93 : decode prog_1_method_20_code 93 = .ok (.getfield 117, 3) := by decide +kernel
theorem d_V_writeEntries_96 : decode prog_1_method_20_code 96 = .ok (.iadd, 1) := by decide +kernel
theorem d_V_writeEntries_97 : decode prog_1_method_20_code 97 = .ok (.invokevirtual 166, 3) := by decide +kernel
theorem d_V_writeEntries_100 : decode prog_1_method_20_code 100 = .ok (.aload_n 0, 1) := by decide +kernel
theorem d_V_writeEntries_101 : decode prog_1_method_20_code 101 = .ok (.getfield 62, 3) := by decide +kernel
theorem d_V_writeEntries_104 : decode prog_1_method_20_code 104 = .ok (.iconst 0, 1) := by decide +kernel
theorem d_V_writeEntries_105 : decode prog_1_method_20_code 105 = .ok (.bipush 16, 2) := by decide +kernel
theorem d_V_writeEntries_107 : decode prog_1_method_20_code 107 = .ok (.invokevirtual 323, 3) := by decide +kernel
theorem d_V_writeEntries_110 : decode prog_1_method_20_code 110 = .ok (.return_, 1) := by decide +kernel
theorem d_V_create_0 : decode prog_1_method_3_code 0 = .ok (.aload_n 0, 1) := by decide +kernel
theorem d_V_create_1 : decode prog_1_method_3_code 1 = .ok (.invokevirtual 70, 3) := by decide +kernel
theorem d_V_create_4 : decode prog_1_method_3_code 4 = .ok (.aload_n 0, 1) := by decide +kernel
theorem d_V_create_5 : decode prog_1_method_3_code 5 = .ok (.getfield 58, 3) := by decide +kernel
theorem d_V_create_8 : decode prog_1_method_3_code 8 = .ok (.aload_n 0, 1) := by decide +kernel
theorem d_V_create_9 : decode prog_1_method_3_code 9 = .ok (.getfield 12, 3) := by decide +kernel
theorem d_V_create_12 : decode prog_1_method_3_code 12 = .ok (.invokevirtual 73, 3) := by decide +kernel
theorem d_V_create_15 : decode prog_1_method_3_code 15 = .ok (.aload_n 0, 1) := by decide +kernel
theorem d_V_create_16 : decode prog_1_method_3_code 16 = .ok (.getfield 58, 3) := by decide +kernel
theorem d_V_create_19 : decode prog_1_method_3_code 19 = .ok (.invokevirtual 76, 3) := by decide +kernel
theorem d_V_create_22 : decode prog_1_method_3_code 22 = .ok (.ifCond .eq 13, 3) := by decide +kernel
theorem d_V_create_25 : decode prog_1_method_3_code 25 = .ok (.iload_n 1, 1) := by decide +kernel
theorem d_V_create_26 : decode prog_1_method_3_code 26 = .ok (.iconst 1, 1) := by decide +kernel
theorem d_V_create_27 : decode prog_1_method_3_code 27 = .ok (.if_icmp .eq 18, 3) := by decide +kernel
theorem d_V_create_30 : decode prog_1_method_3_code 30 = .ok (.iload_n 1, 1) := by decide +kernel
theorem d_V_create_31 : decode prog_1_method_3_code 31 = .ok (.iconst 2, 1) := by decide +kernel
theorem d_V_create_32 : decode prog_1_method_3_code 32 = .ok (.if_icmp .eq 13, 3) := by decide +kernel
theorem d_V_create_35 : decode prog_1_method_3_code 35 = .ok (.new 80, 3) := by decide +kernel
theorem d_V_create_38 : decode prog_1_method_3_code 38 = .ok (.dup, 1) := by decide +kernel
theorem d_V_create_39 : decode prog_1_method_3_code 39 = .ok (.ldc 82, 2) := by decide +kernel
theorem d_V_create_41 : decode prog_1_method_3_code 41 = .ok (.invokespecial 84, 3) := by decide +kernel
theorem d_V_create_44 : decode prog_1_method_3_code 44 = .ok (.athrow, 1) := by decide +kernel
theorem d_V_create_45 : decode prog_1_method_3_code 45 = .ok (.aload_n 0, 1) := by decide +kernel
theorem d_V_create_46 : decode prog_1_method_3_code 46 = .ok (.getfield 39, 3) := by decide +kernel
theorem d_V_create_49 : decode prog_1_method_3_code 49 = .ok (.aload_n 0, 1) := by decide +kernel
theorem d_V_create_50 : decode prog_1_method_3_code 50 = .ok (.getfield 12, 3) := by decide +kernel
theorem d_V_create_53 : decode prog_1_method_3_code 53 = .ok (.getfield 87, 3) := by decide +kernel
theorem d_V_create_56 : decode prog_1_method_3_code 56 = .ok (.invokevirtual 91, 3) := by decide +kernel
theorem d_V_create_59 : decode prog_1_method_3_code 59 = .ok (.iload_n 1, 1) := by decide +kernel
theorem d_V_create_60 : decode prog_1_method_3_code 60 = .ok (.iconst 2, 1) := by decide +kernel
theorem d_V_create_61 : decode prog_1_method_3_code 61 = .ok (.if_icmp .ne 18, 3) := by decide +kernel
theorem d_V_create_64 : decode prog_1_method_3_code 64 = .ok (.aload_n 0, 1) := by decide +kernel
theorem d_V_create_65 : decode prog_1_method_3_code 65 = .ok (.getfield 12, 3) := by decide +kernel
theorem d_V_create_68 : decode prog_1_method_3_code 68 = .ok (.getfield 95, 3) := by decide +kernel
theorem d_V_create_71 : decode prog_1_method_3_code 71 = .ok (.iconst 5, 1) := by decide +kernel
theorem d_V_create_72 : decode prog_1_method_3_code 72 = .ok (.if_icmp .lt 7, 3) := by decide +kernel
theorem d_V_create_75 : decode prog_1_method_3_code 75 = .ok (.iconst 1, 1) := by decide +kernel
theorem d_V_create_76 : decode prog_1_method_3_code 76 = .ok (.goto 4, 3) := by decide +kernel
theorem d_V_create_79 : decode prog_1_method_3_code 79 = .ok (.iconst 0, 1) := by decide +kernel
theorem d_V_create_80 : decode prog_1_method_3_code 80 = .ok (.istore_n 2, 1) := by decide +kernel
theorem d_V_create_81 : decode prog_1_method_3_code 81 = .ok (.iload_n 2, 1) := by decide +kernel
theorem d_V_create_82 : decode prog_1_method_3_code 82 = .ok (.ifCond .ne 33, 3) := by decide +kernel
theorem d_V_create_85 : decode prog_1_method_3_code 85 = .ok (.aload_n 0, 1) := by decide +kernel
theorem d_V_create_86 : decode prog_1_method_3_code 86 = .ok (.getfield 39, 3) := by decide +kernel
theorem d_V_create_89 : decode prog_1_method_3_code 89 = .ok (.aload_n 0, 1) := by decide +kernel
theorem d_V_create_90 : decode prog_1_method_3_code 90 = .ok (.getfield 58, 3) := by decide +kernel
theorem d_V_create_93 : decode prog_1_method_3_code 93 = .ok (.iconst 0, 1) := by decide +kernel
theorem d_V_create_94 : decode prog_1_method_3_code 94 = .ok (.invokevirtual 98, 3) := by decide +kernel
theorem d_V_create_97 : decode prog_1_method_3_code 97 = .ok (.iconst (-1), 1) := by decide +kernel
theorem d_V_create_98 : decode prog_1_method_3_code 98 = .ok (.if_icmp .ne 17, 3) := by decide +kernel
theorem d_V_create_101 : decode prog_1_method_3_code 101 = .ok (.aload_n 0, 1) := by decide +kernel
theorem d_V_create_102 : decode prog_1_method_3_code 102 = .ok (.getfield 58, 3) := by decide +kernel
theorem d_V_create_105 : decode prog_1_method_3_code 105 = .ok (.aload_n 0, 1) := by decide +kernel
theorem d_V_create_106 : decode prog_1_method_3_code 106 = .ok (.getfield 39, 3) := by decide +kernel
theorem d_V_create_109 : decode prog_1_method_3_code 109 = .ok (.invokevirtual 102, 3) := by decide +kernel
theorem d_V_create_112 : decode prog_1_method_3_code 112 = .ok (.ifCond .ne 13, 3) := by decide +kernel
theorem d_V_create_115 : decode prog_1_method_3_code 115 = .ok (.new 106, 3) := by decide +kernel
theorem d_V_create_118 : decode prog_1_method_3_code 118 = .ok (.dup, 1) := by decide +kernel
theorem d_V_create_119 : decode prog_1_method_3_code 119 = .ok (.ldc 108, 2) := by decide +kernel
theorem d_V_create_121 : decode prog_1_method_3_code 121 = .ok (.invokespecial 110, 3) := by decide +kernel
theorem d_V_create_124 : decode prog_1_method_3_code 124 = .ok (.athrow, 1) := by decide +kernel
theorem d_V_create_125 : decode prog_1_method_3_code 125 = .ok (.iload_n 1, 1) := by decide +kernel
theorem d_V_create_126 : decode prog_1_method_3_code 126 = .ok (.iconst 2, 1) := by decide +kernel
theorem d_V_create_127 : decode prog_1_method_3_code 127 = .ok (.if_icmp .ne 13, 3) := by decide +kernel
theorem d_V_create_130 : decode prog_1_method_3_code 130 = .ok (.aload_n 0, 1) := by decide +kernel
theorem d_V_create_131 : decode prog_1_method_3_code 131 = .ok (.getfield 30, 3) := by decide +kernel
theorem d_V_create_134 : decode prog_1_method_3_code 134 = .ok (.invokevirtual 111, 3) := by decide +kernel
theorem d_V_create_137 : decode prog_1_method_3_code 137 = .ok (.goto 4, 3) := by decide +kernel
theorem d_V_create_140 : decode prog_1_method_3_code 140 = .ok (.iconst 0, 1) := by decide +kernel
theorem d_V_create_141 : decode prog_1_method_3_code 141 = .ok (.istore_n 3, 1) := by decide +kernel
theorem d_V_create_142 : decode prog_1_method_3_code 142 = .ok (.iload_n 1, 1) := by decide +kernel
theorem d_V_create_143 : decode prog_1_method_3_code 143 = .ok (.iconst 2, 1) := by decide +kernel
theorem d_V_create_144 : decode prog_1_method_3_code 144 = .ok (.if_icmp .ne 17, 3) := by decide +kernel
theorem d_V_create_147 : decode prog_1_method_3_code 147 = .ok (.iload_n 3, 1) := by decide +kernel
theorem d_V_create_148 : decode prog_1_method_3_code 148 = .ok (.ifCond .ne 13, 3) := by decide +kernel
theorem d_V_create_151 : decode prog_1_method_3_code 151 = .ok (.new 106, 3) := by decide +kernel
theorem d_V_create_154 : decode prog_1_method_3_code 154 = .ok (.dup, 1) := by decide +kernel
theorem d_V_create_155 : decode prog_1_method_3_code 155 = .ok (.ldc 115, 2) := by decide +kernel
theorem d_V_create_157 : decode prog_1_method_3_code 157 = .ok (.invokespecial 110, 3) := by decide +kernel
theorem d_V_create_160 : decode prog_1_method_3_code 160 = .ok (.athrow, 1) := by decide +kernel
theorem d_V_create_161 : decode prog_1_method_3_code 161 = .ok (.aload_n 0, 1) := by decide +kernel
theorem d_V_create_162 : decode prog_1_method_3_code 162 = .ok (.aload_n 0, 1) := by decide +kernel
theorem d_V_create_163 : decode prog_1_method_3_code 163 = .ok (.getfield 58, 3) := by decide +kernel
theorem d_V_create_166 : decode prog_1_method_3_code 166 = .ok (.getfield 117, 3) := by decide +kernel
theorem d_V_create_169 : decode prog_1_method_3_code 169 = .ok (.iconst 1, 1) := by decide +kernel
theorem d_V_create_170 : decode prog_1_method_3_code 170 = .ok (.iadd, 1) := by decide +kernel
theorem d_V_create_171 : decode prog_1_method_3_code 171 = .ok (.invokevirtual 120, 3) := by decide +kernel
theorem d_V_create_174 : decode prog_1_method_3_code 174 = .ok (.istore 4, 2) := by decide +kernel
theorem d_V_create_176 : decode prog_1_method_3_code 176 = .ok (.iload 4, 2) := by decide +kernel
theorem d_V_create_178 : decode prog_1_method_3_code 178 = .ok (.iconst (-1), 1) := by decide +kernel
theorem d_V_create_179 : decode prog_1_method_3_code 179 = .ok (.if_icmp .ne 13, 3) := by decide +kernel
theorem d_V_create_182 : decode prog_1_method_3_code 182 = .ok (.new 106, 3) := by decide +kernel
theorem d_V_create_185 : decode prog_1_method_3_code 185 = .ok (.dup, 1) := by decide +kernel
theorem d_V_create_186 : decode prog_1_method_3_code 186 = .ok (.ldc 115, 2) := by decide +kernel
theorem d_V_create_188 : decode prog_1_method_3_code 188 = .ok (.invokespecial 110, 3) := by decide +kernel
theorem d_V_create_191 : decode prog_1_method_3_code 191 = .ok (.athrow, 1) := by decide +kernel
theorem d_V_create_192 : decode prog_1_method_3_code 192 = .ok (.aload_n 0, 1) := by decide +kernel
theorem d_V_create_193 : decode prog_1_method_3_code 193 = .ok (.iload 4, 2) := by decide +kernel
theorem d_V_create_195 : decode prog_1_method_3_code 195 = .ok (.iload_n 1, 1) := by decide +kernel
theorem d_V_create_196 : decode prog_1_method_3_code 196 = .ok (.iload_n 3, 1) := by decide +kernel
theorem d_V_create_197 : decode prog_1_method_3_code 197 = .ok (.invokevirtual 124, 3) := by decide +kernel
theorem d_V_create_200 : decode prog_1_method_3_code 200 = .ok (.return_, 1) := by decide +kernel
theorem d_Ses_holds_0 : decode prog_6_method_8_code 0 = .ok (.iconst 0, 1) := by decide +kernel
theorem d_Ses_holds_1 : decode prog_6_method_8_code 1 = .ok (.istore_n 2, 1) := by decide +kernel
theorem d_Ses_holds_2 : decode prog_6_method_8_code 2 = .ok (.iload_n 2, 1) := by decide +kernel
theorem d_Ses_holds_3 : decode prog_6_method_8_code 3 = .ok (.iconst 4, 1) := by decide +kernel
theorem d_Ses_holds_4 : decode prog_6_method_8_code 4 = .ok (.if_icmp .ge 21, 3) := by decide +kernel
theorem d_Ses_holds_7 : decode prog_6_method_8_code 7 = .ok (.aload_n 0, 1) := by decide +kernel
theorem d_Ses_holds_8 : decode prog_6_method_8_code 8 = .ok (.getfield 15, 3) := by decide +kernel
theorem d_Ses_holds_11 : decode prog_6_method_8_code 11 = .ok (.iload_n 2, 1) := by decide +kernel
theorem d_Ses_holds_12 : decode prog_6_method_8_code 12 = .ok (.iaload, 1) := by decide +kernel
theorem d_Ses_holds_13 : decode prog_6_method_8_code 13 = .ok (.iload_n 1, 1) := by decide +kernel
theorem d_Ses_holds_14 : decode prog_6_method_8_code 14 = .ok (.if_icmp .ne 5, 3) := by decide +kernel
theorem d_Ses_holds_17 : decode prog_6_method_8_code 17 = .ok (.iconst 1, 1) := by decide +kernel
theorem d_Ses_holds_18 : decode prog_6_method_8_code 18 = .ok (.ireturn, 1) := by decide +kernel
theorem d_Ses_holds_19 : decode prog_6_method_8_code 19 = .ok (.iinc 2 1, 3) := by decide +kernel
theorem d_Ses_holds_22 : decode prog_6_method_8_code 22 = .ok (.goto (-20), 3) := by decide +kernel
theorem d_Ses_holds_25 : decode prog_6_method_8_code 25 = .ok (.iconst 0, 1) := by decide +kernel
theorem d_Ses_holds_26 : decode prog_6_method_8_code 26 = .ok (.ireturn, 1) := by decide +kernel
theorem d_Folder_pairOf_0 : decode prog_3_method_5_code 0 = .ok (.iload_n 1, 1) := by decide +kernel
theorem d_Folder_pairOf_1 : decode prog_3_method_5_code 1 = .ok (.ifCond .lt 29, 3) := by decide +kernel
theorem d_Folder_pairOf_4 : decode prog_3_method_5_code 4 = .ok (.iload_n 1, 1) := by decide +kernel
theorem d_Folder_pairOf_5 : decode prog_3_method_5_code 5 = .ok (.aload_n 0, 1) := by decide +kernel
theorem d_Folder_pairOf_6 : decode prog_3_method_5_code 6 = .ok (.getfield 23, 3) := by decide +kernel
theorem d_Folder_pairOf_9 : decode prog_3_method_5_code 9 = .ok (.if_icmp .ge 21, 3) := by decide +kernel
theorem d_Folder_pairOf_12 : decode prog_3_method_5_code 12 = .ok (.aload_n 0, 1) := by decide +kernel
theorem d_Folder_pairOf_13 : decode prog_3_method_5_code 13 = .ok (.getfield 9, 3) := by decide +kernel
theorem d_Folder_pairOf_16 : decode prog_3_method_5_code 16 = .ok (.aload_n 0, 1) := by decide +kernel
theorem d_Folder_pairOf_17 : decode prog_3_method_5_code 17 = .ok (.getfield 19, 3) := by decide +kernel
theorem d_Folder_pairOf_20 : decode prog_3_method_5_code 20 = .ok (.iload_n 1, 1) := by decide +kernel
theorem d_Folder_pairOf_21 : decode prog_3_method_5_code 21 = .ok (.iaload, 1) := by decide +kernel
theorem d_Folder_pairOf_22 : decode prog_3_method_5_code 22 = .ok (.iload_n 2, 1) := by decide +kernel
theorem d_Folder_pairOf_23 : decode prog_3_method_5_code 23 = .ok (.iadd, 1) := by decide +kernel
theorem d_Folder_pairOf_24 : decode prog_3_method_5_code 24 = .ok (.invokevirtual 48, 3) := by decide +kernel
theorem d_Folder_pairOf_27 : decode prog_3_method_5_code 27 = .ok (.goto 4, 3) := by decide +kernel
theorem d_Folder_pairOf_30 : decode prog_3_method_5_code 30 = .ok (.iconst 0, 1) := by decide +kernel
theorem d_Folder_pairOf_31 : decode prog_3_method_5_code 31 = .ok (.ireturn, 1) := by decide +kernel
theorem d_Folder_firstClusterOf_0 : decode prog_3_method_8_code 0 = .ok (.aload_n 0, 1) := by decide +kernel
theorem d_Folder_firstClusterOf_1 : decode prog_3_method_8_code 1 = .ok (.iload_n 1, 1) := by decide +kernel
theorem d_Folder_firstClusterOf_2 : decode prog_3_method_8_code 2 = .ok (.bipush 8, 2) := by decide +kernel
theorem d_Folder_firstClusterOf_4 : decode prog_3_method_8_code 4 = .ok (.invokevirtual 55, 3) := by decide +kernel
theorem d_Folder_firstClusterOf_7 : decode prog_3_method_8_code 7 = .ok (.ireturn, 1) := by decide +kernel
theorem d_Folder_isEmpty_0 : decode prog_3_method_11_code 0 = .ok (.iconst 0, 1) := by decide +kernel
theorem d_Folder_isEmpty_1 : decode prog_3_method_11_code 1 = .ok (.istore_n 1, 1) := by decide +kernel
theorem d_Folder_isEmpty_2 : decode prog_3_method_11_code 2 = .ok (.iload_n 1, 1) := by decide +kernel
theorem d_Folder_isEmpty_3 : decode prog_3_method_11_code 3 = .ok (.aload_n 0, 1) := by decide +kernel
theorem d_Folder_isEmpty_4 : decode prog_3_method_11_code 4 = .ok (.getfield 23, 3) := by decide +kernel
theorem d_Folder_isEmpty_7 : decode prog_3_method_11_code 7 = .ok (.if_icmp .ge 19, 3) := by decide +kernel
theorem d_Folder_isEmpty_10 : decode prog_3_method_11_code 10 = .ok (.aload_n 0, 1) := by decide +kernel
theorem d_Folder_isEmpty_11 : decode prog_3_method_11_code 11 = .ok (.iload_n 1, 1) := by decide +kernel
theorem d_Folder_isEmpty_12 : decode prog_3_method_11_code 12 = .ok (.invokevirtual 58, 3) := by decide +kernel
theorem d_Folder_isEmpty_15 : decode prog_3_method_11_code 15 = .ok (.ifCond .ne 5, 3) := by decide +kernel
theorem d_Folder_isEmpty_18 : decode prog_3_method_11_code 18 = .ok (.iconst 0, 1) := by decide +kernel
theorem d_Folder_isEmpty_19 : decode prog_3_method_11_code 19 = .ok (.ireturn, 1) := by decide +kernel
theorem d_Folder_isEmpty_20 : decode prog_3_method_11_code 20 = .ok (.iinc 1 1, 3) := by decide +kernel
theorem d_Folder_isEmpty_23 : decode prog_3_method_11_code 23 = .ok (.goto (-21), 3) := by decide +kernel
theorem d_Folder_isEmpty_26 : decode prog_3_method_11_code 26 = .ok (.iconst 1, 1) := by decide +kernel
theorem d_Folder_isEmpty_27 : decode prog_3_method_11_code 27 = .ok (.ireturn, 1) := by decide +kernel
theorem d_V_canBeDeleted_0 : decode prog_1_method_21_code 0 = .ok (.aload_n 0, 1) := by decide +kernel
theorem d_V_canBeDeleted_1 : decode prog_1_method_21_code 1 = .ok (.getfield 39, 3) := by decide +kernel
theorem d_V_canBeDeleted_4 : decode prog_1_method_21_code 4 = .ok (.iload_n 1, 1) := by decide +kernel
theorem d_V_canBeDeleted_5 : decode prog_1_method_21_code 5 = .ok (.invokevirtual 238, 3) := by decide +kernel
theorem d_V_canBeDeleted_8 : decode prog_1_method_21_code 8 = .ok (.iconst 1, 1) := by decide +kernel
theorem d_V_canBeDeleted_9 : decode prog_1_method_21_code 9 = .ok (.if_icmp .ne 27, 3) := by decide +kernel
theorem d_V_canBeDeleted_12 : decode prog_1_method_21_code 12 = .ok (.aload_n 0, 1) := by decide +kernel
theorem d_V_canBeDeleted_13 : decode prog_1_method_21_code 13 = .ok (.getfield 12, 3) := by decide +kernel
theorem d_V_canBeDeleted_16 : decode prog_1_method_21_code 16 = .ok (.aload_n 0, 1) := by decide +kernel
theorem d_V_canBeDeleted_17 : decode prog_1_method_21_code 17 = .ok (.getfield 39, 3) := by decide +kernel
theorem d_V_canBeDeleted_20 : decode prog_1_method_21_code 20 = .ok (.iload_n 1, 1) := by decide +kernel
theorem d_V_canBeDeleted_21 : decode prog_1_method_21_code 21 = .ok (.invokevirtual 166, 3) := by decide +kernel
theorem d_V_canBeDeleted_24 : decode prog_1_method_21_code 24 = .ok (.invokevirtual 331, 3) := by decide +kernel
theorem d_V_canBeDeleted_27 : decode prog_1_method_21_code 27 = .ok (.ifCond .ne 7, 3) := by decide +kernel
theorem d_V_canBeDeleted_30 : decode prog_1_method_21_code 30 = .ok (.iconst 1, 1) := by decide +kernel
theorem d_V_canBeDeleted_31 : decode prog_1_method_21_code 31 = .ok (.goto 4, 3) := by decide +kernel
theorem d_V_canBeDeleted_34 : decode prog_1_method_21_code 34 = .ok (.iconst 0, 1) := by decide +kernel
theorem d_V_canBeDeleted_35 : decode prog_1_method_21_code 35 = .ok (.ireturn, 1) := by decide +kernel
theorem d_V_canBeDeleted_36 : decode prog_1_method_21_code 36 = .ok (.aload_n 0, 1) := by decide +kernel
theorem d_V_canBeDeleted_37 : decode prog_1_method_21_code 37 = .ok (.getfield 43, 3) := by decide +kernel
theorem d_V_canBeDeleted_40 : decode prog_1_method_21_code 40 = .ok (.aload_n 0, 1) := by decide +kernel
theorem d_V_canBeDeleted_41 : decode prog_1_method_21_code 41 = .ok (.getfield 39, 3) := by decide +kernel
theorem d_V_canBeDeleted_44 : decode prog_1_method_21_code 44 = .ok (.iload_n 1, 1) := by decide +kernel
theorem d_V_canBeDeleted_45 : decode prog_1_method_21_code 45 = .ok (.invokevirtual 142, 3) := by decide +kernel
theorem d_V_canBeDeleted_48 : decode prog_1_method_21_code 48 = .ok (.invokevirtual 91, 3) := by decide +kernel
theorem d_V_canBeDeleted_51 : decode prog_1_method_21_code 51 = .ok (.aload_n 0, 1) := by decide +kernel
theorem d_V_canBeDeleted_52 : decode prog_1_method_21_code 52 = .ok (.getfield 43, 3) := by decide +kernel
theorem d_V_canBeDeleted_55 : decode prog_1_method_21_code 55 = .ok (.invokevirtual 334, 3) := by decide +kernel
theorem d_V_canBeDeleted_58 : decode prog_1_method_21_code 58 = .ok (.ireturn, 1) := by decide +kernel
theorem d_Disk_writeByte_0 : decode prog_2_method_8_code 0 = .ok (.aload_n 0, 1) := by decide +kernel
theorem d_Disk_writeByte_1 : decode prog_2_method_8_code 1 = .ok (.invokevirtual 48, 3) := by decide +kernel
theorem d_Disk_writeByte_4 : decode prog_2_method_8_code 4 = .ok (.aload_n 0, 1) := by decide +kernel
theorem d_Disk_writeByte_5 : decode prog_2_method_8_code 5 = .ok (.iload_n 1, 1) := by decide +kernel
theorem d_Disk_writeByte_6 : decode prog_2_method_8_code 6 = .ok (.iload_n 2, 1) := by decide +kernel
theorem d_Disk_writeByte_7 : decode prog_2_method_8_code 7 = .ok (.invokevirtual 51, 3) := by decide +kernel
theorem d_Disk_writeByte_10 : decode prog_2_method_8_code 10 = .ok (.return_, 1) := by decide +kernel
theorem d_Folder_markFreed_0 : decode prog_3_method_29_code 0 = .ok (.aload_n 0, 1) := by decide +kernel
theorem d_Folder_markFreed_1 : decode prog_3_method_29_code 1 = .ok (.iload_n 1, 1) := by decide +kernel
theorem d_Folder_markFreed_2 : decode prog_3_method_29_code 2 = .ok (.invokevirtual 74, 3) := by decide +kernel
theorem d_Folder_markFreed_5 : decode prog_3_method_29_code 5 = .ok (.istore_n 2, 1) := by decide +kernel
theorem d_Folder_markFreed_6 : decode prog_3_method_29_code 6 = .ok (.iload_n 2, 1) := by decide +kernel
theorem d_Folder_markFreed_7 : decode prog_3_method_29_code 7 = .ok (.ifCond .le 26, 3) := by decide +kernel
theorem d_Folder_markFreed_10 : decode prog_3_method_29_code 10 = .ok (.aload_n 0, 1) := by decide +kernel
