theorem d_V_isOnDisk_0 : decode prog_1_method_28_code 0 = .ok (.iload_n 0, 1) := by decide +kernel
theorem d_V_isOnDisk_1 : decode prog_1_method_28_code 1 = .ok (.ifCond .lt 23, 3) := by decide +kernel
theorem d_V_isOnDisk_4 : decode prog_1_method_28_code 4 = .ok (.iload_n 0, 1) := by decide +kernel
theorem d_V_isOnDisk_5 : decode prog_1_method_28_code 5 = .ok (.bipush 70, 2) := by decide +kernel
theorem d_V_isOnDisk_7 : decode prog_1_method_28_code 7 = .ok (.if_icmp .ge 17, 3) := by decide +kernel
theorem d_V_isOnDisk_10 : decode prog_1_method_28_code 10 = .ok (.iload_n 1, 1) := by decide +kernel
theorem d_V_isOnDisk_11 : decode prog_1_method_28_code 11 = .ok (.ifCond .lt 13, 3) := by decide +kernel
theorem d_V_isOnDisk_14 : decode prog_1_method_28_code 14 = .ok (.iload_n 1, 1) := by decide +kernel
theorem d_V_isOnDisk_15 : decode prog_1_method_28_code 15 = .ok (.bipush 32, 2) := by decide +kernel
theorem d_V_isOnDisk_17 : decode prog_1_method_28_code 17 = .ok (.if_icmp .ge 7, 3) := by decide +kernel
theorem d_V_isOnDisk_20 : decode prog_1_method_28_code 20 = .ok (.iconst 1, 1) := by decide +kernel
theorem d_V_isOnDisk_21 : decode prog_1_method_28_code 21 = .ok (.goto 4, 3) := by decide +kernel
theorem d_V_isOnDisk_24 : decode prog_1_method_28_code 24 = .ok (.iconst 0, 1) := by decide +kernel
theorem d_V_isOnDisk_25 : decode prog_1_method_28_code 25 = .ok (.ireturn, 1) := by decide +kernel
theorem d_Disk_at_0 : decode prog_2_method_2_code 0 = .ok (.iload_n 1, 1) := by decide +kernel
theorem d_Disk_at_1 : decode prog_2_method_2_code 1 = .ok (.ifCond .lt 21, 3) := by decide +kernel
theorem d_Disk_at_4 : decode prog_2_method_2_code 4 = .ok (.iload_n 1, 1) := by decide +kernel
theorem d_Disk_at_5 : decode prog_2_method_2_code 5 = .ok (.aload_n 0, 1) := by decide +kernel
theorem d_Disk_at_6 : decode prog_2_method_2_code 6 = .ok (.getfield 15, 3) := by decide +kernel
theorem d_Disk_at_9 : decode prog_2_method_2_code 9 = .ok (.arraylength, 1) := by decide +kernel
theorem d_Disk_at_10 : decode prog_2_method_2_code 10 = .ok (.if_icmp .ge 12, 3) := by decide +kernel
theorem d_Disk_at_13 : decode prog_2_method_2_code 13 = .ok (.aload_n 0, 1) := by decide +kernel
theorem d_Disk_at_14 : decode prog_2_method_2_code 14 = .ok (.getfield 15, 3) := by decide +kernel
theorem d_Disk_at_17 : decode prog_2_method_2_code 17 = .ok (.iload_n 1, 1) := by decide +kernel
theorem d_Disk_at_18 : decode prog_2_method_2_code 18 = .ok (.iaload, 1) := by decide +kernel
theorem d_Disk_at_19 : decode prog_2_method_2_code 19 = .ok (.goto 4, 3) := by decide +kernel
theorem d_Disk_at_22 : decode prog_2_method_2_code 22 = .ok (.iconst 0, 1) := by decide +kernel
theorem d_Disk_at_23 : decode prog_2_method_2_code 23 = .ok (.ireturn, 1) := by decide +kernel
theorem d_V_octet_0 : decode prog_1_method_15_code 0 = .ok (.iload_n 1, 1) := by decide +kernel
theorem d_V_octet_1 : decode prog_1_method_15_code 1 = .ok (.iload_n 2, 1) := by decide +kernel
theorem d_V_octet_2 : decode prog_1_method_15_code 2 = .ok (.invokestatic 292, 3) := by decide +kernel
theorem d_V_octet_5 : decode prog_1_method_15_code 5 = .ok (.ifCond .eq 19, 3) := by decide +kernel
theorem d_V_octet_8 : decode prog_1_method_15_code 8 = .ok (.aload_n 0, 1) := by decide +kernel
theorem d_V_octet_9 : decode prog_1_method_15_code 9 = .ok (.getfield 21, 3) := by decide +kernel
theorem d_V_octet_12 : decode prog_1_method_15_code 12 = .ok (.iload_n 1, 1) := by decide +kernel
theorem d_V_octet_13 : decode prog_1_method_15_code 13 = .ok (.bipush 32, 2) := by decide +kernel
theorem d_V_octet_15 : decode prog_1_method_15_code 15 = .ok (.imul, 1) := by decide +kernel
theorem d_V_octet_16 : decode prog_1_method_15_code 16 = .ok (.iload_n 2, 1) := by decide +kernel
theorem d_V_octet_17 : decode prog_1_method_15_code 17 = .ok (.iadd, 1) := by decide +kernel
theorem d_V_octet_18 : decode prog_1_method_15_code 18 = .ok (.invokevirtual 205, 3) := by decide +kernel
theorem d_V_octet_21 : decode prog_1_method_15_code 21 = .ok (.goto 4, 3) := by decide +kernel
theorem d_V_octet_24 : decode prog_1_method_15_code 24 = .ok (.iconst (-1), 1) := by decide +kernel
theorem d_V_octet_25 : decode prog_1_method_15_code 25 = .ok (.ireturn, 1) := by decide +kernel
theorem d_Ses_isOpen_0 : decode prog_6_method_6_code 0 = .ok (.iload_n 1, 1) := by decide +kernel
theorem d_Ses_isOpen_1 : decode prog_6_method_6_code 1 = .ok (.ifCond .lt 22, 3) := by decide +kernel
theorem d_Ses_isOpen_4 : decode prog_6_method_6_code 4 = .ok (.iload_n 1, 1) := by decide +kernel
theorem d_Ses_isOpen_5 : decode prog_6_method_6_code 5 = .ok (.iconst 4, 1) := by decide +kernel
theorem d_Ses_isOpen_6 : decode prog_6_method_6_code 6 = .ok (.if_icmp .ge 17, 3) := by decide +kernel
theorem d_Ses_isOpen_9 : decode prog_6_method_6_code 9 = .ok (.aload_n 0, 1) := by decide +kernel
theorem d_Ses_isOpen_10 : decode prog_6_method_6_code 10 = .ok (.getfield 15, 3) := by decide +kernel
theorem d_Ses_isOpen_13 : decode prog_6_method_6_code 13 = .ok (.iload_n 1, 1) := by decide +kernel
theorem d_Ses_isOpen_14 : decode prog_6_method_6_code 14 = .ok (.iaload, 1) := by decide +kernel
theorem d_Ses_isOpen_15 : decode prog_6_method_6_code 15 = .ok (.iconst (-1), 1) := by decide +kernel
theorem d_Ses_isOpen_16 : decode prog_6_method_6_code 16 = .ok (.if_icmp .eq 7, 3) := by decide +kernel
theorem d_Ses_isOpen_19 : decode prog_6_method_6_code 19 = .ok (.iconst 1, 1) := by decide +kernel
theorem d_Ses_isOpen_20 : decode prog_6_method_6_code 20 = .ok (.goto 4, 3) := by decide +kernel
theorem d_Ses_isOpen_23 : decode prog_6_method_6_code 23 = .ok (.iconst 0, 1) := by decide +kernel
theorem d_Ses_isOpen_24 : decode prog_6_method_6_code 24 = .ok (.ireturn, 1) := by decide +kernel
theorem d_Ses_positionOf_0 : decode prog_6_method_13_code 0 = .ok (.iload_n 1, 1) := by decide +kernel
theorem d_Ses_positionOf_1 : decode prog_6_method_13_code 1 = .ok (.ifCond .lt 17, 3) := by decide +kernel
theorem d_Ses_positionOf_4 : decode prog_6_method_13_code 4 = .ok (.iload_n 1, 1) := by decide +kernel
theorem d_Ses_positionOf_5 : decode prog_6_method_13_code 5 = .ok (.iconst 4, 1) := by decide +kernel
theorem d_Ses_positionOf_6 : decode prog_6_method_13_code 6 = .ok (.if_icmp .ge 12, 3) := by decide +kernel
theorem d_Ses_positionOf_9 : decode prog_6_method_13_code 9 = .ok (.aload_n 0, 1) := by decide +kernel
theorem d_Ses_positionOf_10 : decode prog_6_method_13_code 10 = .ok (.getfield 19, 3) := by decide +kernel
theorem d_Ses_positionOf_13 : decode prog_6_method_13_code 13 = .ok (.iload_n 1, 1) := by decide +kernel
theorem d_Ses_positionOf_14 : decode prog_6_method_13_code 14 = .ok (.iaload, 1) := by decide +kernel
theorem d_Ses_positionOf_15 : decode prog_6_method_13_code 15 = .ok (.goto 4, 3) := by decide +kernel
theorem d_Ses_positionOf_18 : decode prog_6_method_13_code 18 = .ok (.iconst 0, 1) := by decide +kernel
theorem d_Ses_positionOf_19 : decode prog_6_method_13_code 19 = .ok (.ireturn, 1) := by decide +kernel
theorem d_Disk_pairAt_0 : decode prog_2_method_3_code 0 = .ok (.iload_n 1, 1) := by decide +kernel
theorem d_Disk_pairAt_1 : decode prog_2_method_3_code 1 = .ok (.ifCond .lt 18, 3) := by decide +kernel
theorem d_Disk_pairAt_4 : decode prog_2_method_3_code 4 = .ok (.iload_n 1, 1) := by decide +kernel
theorem d_Disk_pairAt_5 : decode prog_2_method_3_code 5 = .ok (.aload_n 0, 1) := by decide +kernel
theorem d_Disk_pairAt_6 : decode prog_2_method_3_code 6 = .ok (.getfield 15, 3) := by decide +kernel
theorem d_Disk_pairAt_9 : decode prog_2_method_3_code 9 = .ok (.arraylength, 1) := by decide +kernel
theorem d_Disk_pairAt_10 : decode prog_2_method_3_code 10 = .ok (.iconst 1, 1) := by decide +kernel
theorem d_Disk_pairAt_11 : decode prog_2_method_3_code 11 = .ok (.isub, 1) := by decide +kernel
theorem d_Disk_pairAt_12 : decode prog_2_method_3_code 12 = .ok (.if_icmp .ge 7, 3) := by decide +kernel
theorem d_Disk_pairAt_15 : decode prog_2_method_3_code 15 = .ok (.iconst 1, 1) := by decide +kernel
theorem d_Disk_pairAt_16 : decode prog_2_method_3_code 16 = .ok (.goto 4, 3) := by decide +kernel
theorem d_Disk_pairAt_19 : decode prog_2_method_3_code 19 = .ok (.iconst 0, 1) := by decide +kernel
theorem d_Disk_pairAt_20 : decode prog_2_method_3_code 20 = .ok (.istore_n 2, 1) := by decide +kernel
theorem d_Disk_pairAt_21 : decode prog_2_method_3_code 21 = .ok (.iload_n 2, 1) := by decide +kernel
theorem d_Disk_pairAt_22 : decode prog_2_method_3_code 22 = .ok (.ifCond .eq 25, 3) := by decide +kernel
theorem d_Disk_pairAt_25 : decode prog_2_method_3_code 25 = .ok (.aload_n 0, 1) := by decide +kernel
theorem d_Disk_pairAt_26 : decode prog_2_method_3_code 26 = .ok (.getfield 15, 3) := by decide +kernel
theorem d_Disk_pairAt_29 : decode prog_2_method_3_code 29 = .ok (.iload_n 1, 1) := by decide +kernel
theorem d_Disk_pairAt_30 : decode prog_2_method_3_code 30 = .ok (.iaload, 1) := by decide +kernel
theorem d_Disk_pairAt_31 : decode prog_2_method_3_code 31 = .ok (.sipush 256, 3) := by decide +kernel
theorem d_Disk_pairAt_34 : decode prog_2_method_3_code 34 = .ok (.aload_n 0, 1) := by decide +kernel
theorem d_Disk_pairAt_35 : decode prog_2_method_3_code 35 = .ok (.getfield 15, 3) := by decide +kernel
theorem d_Disk_pairAt_38 : decode prog_2_method_3_code 38 = .ok (.iload_n 1, 1) := by decide +kernel
theorem d_Disk_pairAt_39 : decode prog_2_method_3_code 39 = .ok (.iconst 1, 1) := by decide +kernel
theorem d_Disk_pairAt_40 : decode prog_2_method_3_code 40 = .ok (.iadd, 1) := by decide +kernel
theorem d_Disk_pairAt_41 : decode prog_2_method_3_code 41 = .ok (.iaload, 1) := by decide +kernel
theorem d_Disk_pairAt_42 : decode prog_2_method_3_code 42 = .ok (.imul, 1) := by decide +kernel
theorem d_Disk_pairAt_43 : decode prog_2_method_3_code 43 = .ok (.iadd, 1) := by decide +kernel
theorem d_Disk_pairAt_44 : decode prog_2_method_3_code 44 = .ok (.goto 4, 3) := by decide +kernel
theorem d_Disk_pairAt_47 : decode prog_2_method_3_code 47 = .ok (.iconst 0, 1) := by decide +kernel
theorem d_Disk_pairAt_48 : decode prog_2_method_3_code 48 = .ok (.ireturn, 1) := by decide +kernel
theorem d_Table_cell_0 : decode prog_7_method_2_code 0 = .ok (.aload_n 0, 1) := by decide +kernel
theorem d_Table_cell_1 : decode prog_7_method_2_code 1 = .ok (.getfield 9, 3) := by decide +kernel
theorem d_Table_cell_4 : decode prog_7_method_2_code 4 = .ok (.iconst 2, 1) := by decide +kernel
theorem d_Table_cell_5 : decode prog_7_method_2_code 5 = .ok (.iload_n 1, 1) := by decide +kernel
theorem d_Table_cell_6 : decode prog_7_method_2_code 6 = .ok (.imul, 1) := by decide +kernel
theorem d_Table_cell_7 : decode prog_7_method_2_code 7 = .ok (.invokevirtual 15, 3) := by decide +kernel
theorem d_Table_cell_10 : decode prog_7_method_2_code 10 = .ok (.ireturn, 1) := by decide +kernel
theorem d_Table_isFree_0 : decode prog_7_method_6_code 0 = .ok (.aload_n 0, 1) := by decide +kernel
theorem d_Table_isFree_1 : decode prog_7_method_6_code 1 = .ok (.iload_n 1, 1) := by decide +kernel
theorem d_Table_isFree_2 : decode prog_7_method_6_code 2 = .ok (.invokevirtual 25, 3) := by decide +kernel
theorem d_Table_isFree_5 : decode prog_7_method_6_code 5 = .ok (.ifCond .ne 7, 3) := by decide +kernel
theorem d_Table_isFree_8 : decode prog_7_method_6_code 8 = .ok (.iconst 1, 1) := by decide +kernel
theorem d_Table_isFree_9 : decode prog_7_method_6_code 9 = .ok (.goto 4, 3) := by decide +kernel
theorem d_Table_isFree_12 : decode prog_7_method_6_code 12 = .ok (.iconst 0, 1) := by decide +kernel
theorem d_Table_isFree_13 : decode prog_7_method_6_code 13 = .ok (.ireturn, 1) := by decide +kernel
theorem d_Table_countFree_0 : decode prog_7_method_7_code 0 = .ok (.iconst 0, 1) := by decide +kernel
theorem d_Table_countFree_1 : decode prog_7_method_7_code 1 = .ok (.istore_n 1, 1) := by decide +kernel
theorem d_Table_countFree_2 : decode prog_7_method_7_code 2 = .ok (.iconst 2, 1) := by decide +kernel
theorem d_Table_countFree_3 : decode prog_7_method_7_code 3 = .ok (.istore_n 2, 1) := by decide +kernel
theorem d_Table_countFree_4 : decode prog_7_method_7_code 4 = .ok (.iload_n 2, 1) := by decide +kernel
theorem d_Table_countFree_5 : decode prog_7_method_7_code 5 = .ok (.bipush 64, 2) := by decide +kernel
theorem d_Table_countFree_7 : decode prog_7_method_7_code 7 = .ok (.if_icmp .ge 20, 3) := by decide +kernel
theorem d_Table_countFree_10 : decode prog_7_method_7_code 10 = .ok (.aload_n 0, 1) := by decide +kernel
theorem d_Table_countFree_11 : decode prog_7_method_7_code 11 = .ok (.iload_n 2, 1) := by decide +kernel
theorem d_Table_countFree_12 : decode prog_7_method_7_code 12 = .ok (.invokevirtual 28, 3) := by decide +kernel
theorem d_Table_countFree_15 : decode prog_7_method_7_code 15 = .ok (.ifCond .eq 6, 3) := by decide +kernel
theorem d_Table_countFree_18 : decode prog_7_method_7_code 18 = .ok (.iinc 1 1, 3) := by decide +kernel
theorem d_Table_countFree_21 : decode prog_7_method_7_code 21 = .ok (.iinc 2 1, 3) := by decide +kernel
theorem d_Table_countFree_24 : decode prog_7_method_7_code 24 = .ok (.goto (-20), 3) := by decide +kernel
theorem d_Table_countFree_27 : decode prog_7_method_7_code 27 = .ok (.iload_n 1, 1) := by decide +kernel
theorem d_Table_countFree_28 : decode prog_7_method_7_code 28 = .ok (.ireturn, 1) := by decide +kernel
theorem d_V_look_0 : decode prog_1_method_17_code 0 = .ok (.iload_n 1, 1) := by decide +kernel
theorem d_V_look_1 : decode prog_1_method_17_code 1 = .ok (.tableswitch 83 0 4 #[35, 51, 59, 67, 75], 35) := by decide +kernel
theorem d_V_look_36 : decode prog_1_method_17_code 36 = .ok (.aload_n 0, 1) := by decide +kernel
theorem d_V_look_37 : decode prog_1_method_17_code 37 = .ok (.getfield 21, 3) := by decide +kernel
theorem d_V_look_40 : decode prog_1_method_17_code 40 = .ok (.getfield 262, 3) := by decide +kernel
theorem d_V_look_43 : decode prog_1_method_17_code 43 = .ok (.ifCond .eq 7, 3) := by decide +kernel
theorem d_V_look_46 : decode prog_1_method_17_code 46 = .ok (.iconst 1, 1) := by decide +kernel
theorem d_V_look_47 : decode prog_1_method_17_code 47 = .ok (.goto 4, 3) := by decide +kernel
theorem d_V_look_50 : decode prog_1_method_17_code 50 = .ok (.iconst 0, 1) := by decide +kernel
theorem d_V_look_51 : decode prog_1_method_17_code 51 = .ok (.ireturn, 1) := by decide +kernel
theorem d_V_look_52 : decode prog_1_method_17_code 52 = .ok (.aload_n 0, 1) := by decide +kernel
theorem d_V_look_53 : decode prog_1_method_17_code 53 = .ok (.getfield 21, 3) := by decide +kernel
theorem d_V_look_56 : decode prog_1_method_17_code 56 = .ok (.getfield 299, 3) := by decide +kernel
theorem d_V_look_59 : decode prog_1_method_17_code 59 = .ok (.ireturn, 1) := by decide +kernel
theorem d_V_look_60 : decode prog_1_method_17_code 60 = .ok (.aload_n 0, 1) := by decide +kernel
theorem d_V_look_61 : decode prog_1_method_17_code 61 = .ok (.getfield 30, 3) := by decide +kernel
theorem d_V_look_64 : decode prog_1_method_17_code 64 = .ok (.invokevirtual 302, 3) := by decide +kernel
theorem d_V_look_67 : decode prog_1_method_17_code 67 = .ok (.ireturn, 1) := by decide +kernel
theorem d_V_look_68 : decode prog_1_method_17_code 68 = .ok (.aload_n 0, 1) := by decide +kernel
theorem d_V_look_69 : decode prog_1_method_17_code 69 = .ok (.getfield 12, 3) := by decide +kernel
theorem d_V_look_72 : decode prog_1_method_17_code 72 = .ok (.getfield 87, 3) := by decide +kernel
theorem d_V_look_75 : decode prog_1_method_17_code 75 = .ok (.ireturn, 1) := by decide +kernel
theorem d_V_look_76 : decode prog_1_method_17_code 76 = .ok (.aload_n 0, 1) := by decide +kernel
theorem d_V_look_77 : decode prog_1_method_17_code 77 = .ok (.getfield 12, 3) := by decide +kernel
theorem d_V_look_80 : decode prog_1_method_17_code 80 = .ok (.getfield 305, 3) := by decide +kernel
theorem d_V_look_83 : decode prog_1_method_17_code 83 = .ok (.ireturn, 1) := by decide +kernel
theorem d_V_look_84 : decode prog_1_method_17_code 84 = .ok (.iload_n 1, 1) := by decide +kernel
theorem d_V_look_85 : decode prog_1_method_17_code 85 = .ok (.bipush 10, 2) := by decide +kernel
theorem d_V_look_87 : decode prog_1_method_17_code 87 = .ok (.if_icmp .lt 31, 3) := by decide +kernel
theorem d_V_look_90 : decode prog_1_method_17_code 90 = .ok (.aload_n 0, 1) := by decide +kernel
theorem d_V_look_91 : decode prog_1_method_17_code 91 = .ok (.getfield 12, 3) := by decide +kernel
theorem d_V_look_94 : decode prog_1_method_17_code 94 = .ok (.iload_n 1, 1) := by decide +kernel
theorem d_V_look_95 : decode prog_1_method_17_code 95 = .ok (.bipush 10, 2) := by decide +kernel
theorem d_V_look_97 : decode prog_1_method_17_code 97 = .ok (.isub, 1) := by decide +kernel
theorem d_V_look_98 : decode prog_1_method_17_code 98 = .ok (.invokevirtual 173, 3) := by decide +kernel
theorem d_V_look_101 : decode prog_1_method_17_code 101 = .ok (.ifCond .eq 17, 3) := by decide +kernel
theorem d_V_look_104 : decode prog_1_method_17_code 104 = .ok (.aload_n 0, 1) := by decide +kernel
theorem d_V_look_105 : decode prog_1_method_17_code 105 = .ok (.getfield 12, 3) := by decide +kernel
theorem d_V_look_108 : decode prog_1_method_17_code 108 = .ok (.iload_n 1, 1) := by decide +kernel
theorem d_V_look_109 : decode prog_1_method_17_code 109 = .ok (.bipush 10, 2) := by decide +kernel
theorem d_V_look_111 : decode prog_1_method_17_code 111 = .ok (.isub, 1) := by decide +kernel
theorem d_V_look_112 : decode prog_1_method_17_code 112 = .ok (.invokevirtual 187, 3) := by decide +kernel
theorem d_V_look_115 : decode prog_1_method_17_code 115 = .ok (.goto 4, 3) := by decide +kernel
theorem d_V_look_118 : decode prog_1_method_17_code 118 = .ok (.iconst (-1), 1) := by decide +kernel
theorem d_V_look_119 : decode prog_1_method_17_code 119 = .ok (.ireturn, 1) := by decide +kernel
