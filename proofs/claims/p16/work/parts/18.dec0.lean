theorem d_Ses_append_0 : decode prog_6_method_2_code 0 = .ok (.iload_n 1, 1) := by decide +kernel
theorem d_Ses_append_1 : decode prog_6_method_2_code 1 = .ok (.bipush 33, 2) := by decide +kernel
theorem d_Ses_append_3 : decode prog_6_method_2_code 3 = .ok (.if_icmp .lt 24, 3) := by decide +kernel
theorem d_Ses_append_6 : decode prog_6_method_2_code 6 = .ok (.iload_n 1, 1) := by decide +kernel
theorem d_Ses_append_7 : decode prog_6_method_2_code 7 = .ok (.bipush 126, 2) := by decide +kernel
theorem d_Ses_append_9 : decode prog_6_method_2_code 9 = .ok (.if_icmp .gt 18, 3) := by decide +kernel
theorem d_Ses_append_12 : decode prog_6_method_2_code 12 = .ok (.iload_n 1, 1) := by decide +kernel
theorem d_Ses_append_13 : decode prog_6_method_2_code 13 = .ok (.bipush 47, 2) := by decide +kernel
theorem d_Ses_append_15 : decode prog_6_method_2_code 15 = .ok (.if_icmp .eq 12, 3) := by decide +kernel
theorem d_Ses_append_18 : decode prog_6_method_2_code 18 = .ok (.aload_n 0, 1) := by decide +kernel
theorem d_Ses_append_19 : decode prog_6_method_2_code 19 = .ok (.getfield 25, 3) := by decide +kernel
theorem d_Ses_append_22 : decode prog_6_method_2_code 22 = .ok (.bipush 26, 2) := by decide +kernel
theorem d_Ses_append_24 : decode prog_6_method_2_code 24 = .ok (.if_icmp .lt 5, 3) := by decide +kernel
theorem d_Ses_append_27 : decode prog_6_method_2_code 27 = .ok (.iconst 0, 1) := by decide +kernel
theorem d_Ses_append_28 : decode prog_6_method_2_code 28 = .ok (.ireturn, 1) := by decide +kernel
theorem d_Ses_append_29 : decode prog_6_method_2_code 29 = .ok (.aload_n 0, 1) := by decide +kernel
theorem d_Ses_append_30 : decode prog_6_method_2_code 30 = .ok (.getfield 9, 3) := by decide +kernel
theorem d_Ses_append_33 : decode prog_6_method_2_code 33 = .ok (.aload_n 0, 1) := by decide +kernel
theorem d_Ses_append_34 : decode prog_6_method_2_code 34 = .ok (.getfield 25, 3) := by decide +kernel
theorem d_Ses_append_37 : decode prog_6_method_2_code 37 = .ok (.iload_n 1, 1) := by decide +kernel
theorem d_Ses_append_38 : decode prog_6_method_2_code 38 = .ok (.castore, 1) := by decide +kernel
theorem d_Ses_append_39 : decode prog_6_method_2_code 39 = .ok (.aload_n 0, 1) := by decide +kernel
theorem d_Ses_append_40 : decode prog_6_method_2_code 40 = .ok (.dup, 1) := by decide +kernel
theorem d_Ses_append_41 : decode prog_6_method_2_code 41 = .ok (.getfield 25, 3) := by decide +kernel
theorem d_Ses_append_44 : decode prog_6_method_2_code 44 = .ok (.iconst 1, 1) := by decide +kernel
theorem d_Ses_append_45 : decode prog_6_method_2_code 45 = .ok (.iadd, 1) := by decide +kernel
theorem d_Ses_append_46 : decode prog_6_method_2_code 46 = .ok (.putfield 25, 3) := by decide +kernel
theorem d_Ses_append_49 : decode prog_6_method_2_code 49 = .ok (.iconst 1, 1) := by decide +kernel
theorem d_Ses_append_50 : decode prog_6_method_2_code 50 = .ok (.ireturn, 1) := by decide +kernel
theorem d_V_type_0 : decode prog_1_method_2_code 0 = .ok (.aload_n 0, 1) := by decide +kernel
theorem d_V_type_1 : decode prog_1_method_2_code 1 = .ok (.getfield 12, 3) := by decide +kernel
theorem d_V_type_4 : decode prog_1_method_2_code 4 = .ok (.iload_n 1, 1) := by decide +kernel
theorem d_V_type_5 : decode prog_1_method_2_code 5 = .ok (.invokevirtual 66, 3) := by decide +kernel
theorem d_V_type_8 : decode prog_1_method_2_code 8 = .ok (.ireturn, 1) := by decide +kernel
theorem d_V_demandSoundDisk_0 : decode prog_1_method_18_code 0 = .ok (.aload_n 0, 1) := by decide +kernel
theorem d_V_demandSoundDisk_1 : decode prog_1_method_18_code 1 = .ok (.getfield 21, 3) := by decide +kernel
theorem d_V_demandSoundDisk_4 : decode prog_1_method_18_code 4 = .ok (.getfield 262, 3) := by decide +kernel
theorem d_V_demandSoundDisk_7 : decode prog_1_method_18_code 7 = .ok (.ifCond .eq 13, 3) := by decide +kernel
theorem d_V_demandSoundDisk_10 : decode prog_1_method_18_code 10 = .ok (.aload_n 0, 1) := by decide +kernel
theorem d_V_demandSoundDisk_11 : decode prog_1_method_18_code 11 = .ok (.getfield 21, 3) := by decide +kernel
theorem d_V_demandSoundDisk_14 : decode prog_1_method_18_code 14 = .ok (.getfield 286, 3) := by decide +kernel
theorem d_V_demandSoundDisk_17 : decode prog_1_method_18_code 17 = .ok (.ifCond .eq 14, 3) := by decide +kernel
theorem d_V_demandSoundDisk_20 : decode prog_1_method_18_code 20 = .ok (.new 266, 3) := by decide +kernel
theorem d_V_demandSoundDisk_23 : decode prog_1_method_18_code 23 = .ok (.dup, 1) := by decide +kernel
theorem d_V_demandSoundDisk_24 : decode prog_1_method_18_code 24 = .ok (.ldc_w 308, 3) := by decide +kernel
theorem d_V_demandSoundDisk_27 : decode prog_1_method_18_code 27 = .ok (.invokespecial 270, 3) := by decide +kernel
theorem d_V_demandSoundDisk_30 : decode prog_1_method_18_code 30 = .ok (.athrow, 1) := by decide +kernel
theorem d_V_demandSoundDisk_31 : decode prog_1_method_18_code 31 = .ok (.return_, 1) := by decide +kernel
theorem d_Name_takeLineOf_0 : decode prog_4_method_2_code 0 = .ok (.aload_n 0, 1) := by decide +kernel
theorem d_Name_takeLineOf_1 : decode prog_4_method_2_code 1 = .ok (.aload_n 1, 1) := by decide +kernel
theorem d_Name_takeLineOf_2 : decode prog_4_method_2_code 2 = .ok (.getfield 19, 3) := by decide +kernel
theorem d_Name_takeLineOf_5 : decode prog_4_method_2_code 5 = .ok (.putfield 25, 3) := by decide +kernel
theorem d_Name_takeLineOf_8 : decode prog_4_method_2_code 8 = .ok (.iconst 0, 1) := by decide +kernel
theorem d_Name_takeLineOf_9 : decode prog_4_method_2_code 9 = .ok (.istore_n 2, 1) := by decide +kernel
theorem d_Name_takeLineOf_10 : decode prog_4_method_2_code 10 = .ok (.iload_n 2, 1) := by decide +kernel
theorem d_Name_takeLineOf_11 : decode prog_4_method_2_code 11 = .ok (.bipush 26, 2) := by decide +kernel
theorem d_Name_takeLineOf_13 : decode prog_4_method_2_code 13 = .ok (.if_icmp .ge 21, 3) := by decide +kernel
theorem d_Name_takeLineOf_16 : decode prog_4_method_2_code 16 = .ok (.aload_n 0, 1) := by decide +kernel
theorem d_Name_takeLineOf_17 : decode prog_4_method_2_code 17 = .ok (.getfield 9, 3) := by decide +kernel
theorem d_Name_takeLineOf_20 : decode prog_4_method_2_code 20 = .ok (.iload_n 2, 1) := by decide +kernel
theorem d_Name_takeLineOf_21 : decode prog_4_method_2_code 21 = .ok (.aload_n 1, 1) := by decide +kernel
theorem d_Name_takeLineOf_22 : decode prog_4_method_2_code 22 = .ok (.getfield 28, 3) := by decide +kernel
theorem d_Name_takeLineOf_25 : decode prog_4_method_2_code 25 = .ok (.iload_n 2, 1) := by decide +kernel
theorem d_Name_takeLineOf_26 : decode prog_4_method_2_code 26 = .ok (.caload, 1) := by decide +kernel
theorem d_Name_takeLineOf_27 : decode prog_4_method_2_code 27 = .ok (.castore, 1) := by decide +kernel
theorem d_Name_takeLineOf_28 : decode prog_4_method_2_code 28 = .ok (.iinc 2 1, 3) := by decide +kernel
theorem d_Name_takeLineOf_31 : decode prog_4_method_2_code 31 = .ok (.goto (-21), 3) := by decide +kernel
theorem d_Name_takeLineOf_34 : decode prog_4_method_2_code 34 = .ok (.aload_n 1, 1) := by decide +kernel
theorem d_Name_takeLineOf_35 : decode prog_4_method_2_code 35 = .ok (.iconst 0, 1) := by decide +kernel
theorem d_Name_takeLineOf_36 : decode prog_4_method_2_code 36 = .ok (.putfield 19, 3) := by decide +kernel
theorem d_Name_takeLineOf_39 : decode prog_4_method_2_code 39 = .ok (.return_, 1) := by decide +kernel
theorem d_Name_charAt_0 : decode prog_4_method_3_code 0 = .ok (.iload_n 1, 1) := by decide +kernel
theorem d_Name_charAt_1 : decode prog_4_method_3_code 1 = .ok (.ifCond .lt 29, 3) := by decide +kernel
theorem d_Name_charAt_4 : decode prog_4_method_3_code 4 = .ok (.iload_n 1, 1) := by decide +kernel
theorem d_Name_charAt_5 : decode prog_4_method_3_code 5 = .ok (.aload_n 0, 1) := by decide +kernel
theorem d_Name_charAt_6 : decode prog_4_method_3_code 6 = .ok (.getfield 25, 3) := by decide +kernel
theorem d_Name_charAt_9 : decode prog_4_method_3_code 9 = .ok (.if_icmp .ge 21, 3) := by decide +kernel
theorem d_Name_charAt_12 : decode prog_4_method_3_code 12 = .ok (.iload_n 1, 1) := by decide +kernel
theorem d_Name_charAt_13 : decode prog_4_method_3_code 13 = .ok (.aload_n 0, 1) := by decide +kernel
theorem d_Name_charAt_14 : decode prog_4_method_3_code 14 = .ok (.getfield 9, 3) := by decide +kernel
theorem d_Name_charAt_17 : decode prog_4_method_3_code 17 = .ok (.arraylength, 1) := by decide +kernel
theorem d_Name_charAt_18 : decode prog_4_method_3_code 18 = .ok (.if_icmp .ge 12, 3) := by decide +kernel
theorem d_Name_charAt_21 : decode prog_4_method_3_code 21 = .ok (.aload_n 0, 1) := by decide +kernel
theorem d_Name_charAt_22 : decode prog_4_method_3_code 22 = .ok (.getfield 9, 3) := by decide +kernel
theorem d_Name_charAt_25 : decode prog_4_method_3_code 25 = .ok (.iload_n 1, 1) := by decide +kernel
theorem d_Name_charAt_26 : decode prog_4_method_3_code 26 = .ok (.caload, 1) := by decide +kernel
theorem d_Name_charAt_27 : decode prog_4_method_3_code 27 = .ok (.goto 4, 3) := by decide +kernel
theorem d_Name_charAt_30 : decode prog_4_method_3_code 30 = .ok (.iconst 0, 1) := by decide +kernel
theorem d_Name_charAt_31 : decode prog_4_method_3_code 31 = .ok (.ireturn, 1) := by decide +kernel
theorem d_Name_isGood_0 : decode prog_4_method_4_code 0 = .ok (.aload_n 0, 1) := by decide +kernel
theorem d_Name_isGood_1 : decode prog_4_method_4_code 1 = .ok (.getfield 25, 3) := by decide +kernel
theorem d_Name_isGood_4 : decode prog_4_method_4_code 4 = .ok (.ifCond .le 17, 3) := by decide +kernel
theorem d_Name_isGood_7 : decode prog_4_method_4_code 7 = .ok (.aload_n 0, 1) := by decide +kernel
theorem d_Name_isGood_8 : decode prog_4_method_4_code 8 = .ok (.iconst 0, 1) := by decide +kernel
theorem d_Name_isGood_9 : decode prog_4_method_4_code 9 = .ok (.invokevirtual 31, 3) := by decide +kernel
theorem d_Name_isGood_12 : decode prog_4_method_4_code 12 = .ok (.bipush 46, 2) := by decide +kernel
theorem d_Name_isGood_14 : decode prog_4_method_4_code 14 = .ok (.if_icmp .eq 7, 3) := by decide +kernel
theorem d_Name_isGood_17 : decode prog_4_method_4_code 17 = .ok (.iconst 1, 1) := by decide +kernel
theorem d_Name_isGood_18 : decode prog_4_method_4_code 18 = .ok (.goto 4, 3) := by decide +kernel
theorem d_Name_isGood_21 : decode prog_4_method_4_code 21 = .ok (.iconst 0, 1) := by decide +kernel
theorem d_Name_isGood_22 : decode prog_4_method_4_code 22 = .ok (.ireturn, 1) := by decide +kernel
theorem d_V_isCluster_0 : decode prog_1_method_29_code 0 = .ok (.iload_n 0, 1) := by decide +kernel
theorem d_V_isCluster_1 : decode prog_1_method_29_code 1 = .ok (.iconst 2, 1) := by decide +kernel
theorem d_V_isCluster_2 : decode prog_1_method_29_code 2 = .ok (.if_icmp .lt 13, 3) := by decide +kernel
theorem d_V_isCluster_5 : decode prog_1_method_29_code 5 = .ok (.iload_n 0, 1) := by decide +kernel
theorem d_V_isCluster_6 : decode prog_1_method_29_code 6 = .ok (.bipush 64, 2) := by decide +kernel
theorem d_V_isCluster_8 : decode prog_1_method_29_code 8 = .ok (.if_icmp .ge 7, 3) := by decide +kernel
theorem d_V_isCluster_11 : decode prog_1_method_29_code 11 = .ok (.iconst 1, 1) := by decide +kernel
theorem d_V_isCluster_12 : decode prog_1_method_29_code 12 = .ok (.goto 4, 3) := by decide +kernel
theorem d_V_isCluster_15 : decode prog_1_method_29_code 15 = .ok (.iconst 0, 1) := by decide +kernel
theorem d_V_isCluster_16 : decode prog_1_method_29_code 16 = .ok (.ireturn, 1) := by decide +kernel
theorem d_V_sectorOf_0 : decode prog_1_method_30_code 0 = .ok (.iload_n 0, 1) := by decide +kernel
theorem d_V_sectorOf_1 : decode prog_1_method_30_code 1 = .ok (.bipush 6, 2) := by decide +kernel
theorem d_V_sectorOf_3 : decode prog_1_method_30_code 3 = .ok (.iadd, 1) := by decide +kernel
theorem d_V_sectorOf_4 : decode prog_1_method_30_code 4 = .ok (.ireturn, 1) := by decide +kernel
theorem d_Disk_pairAt_0 : decode prog_2_method_3_code 0 = .ok (.iload_n 1, 1) := by decide +kernel
theorem d_Disk_pairAt_1 : decode prog_2_method_3_code 1 = .ok (.ifCond .lt 18, 3) := by decide +kernel
theorem d_Disk_pairAt_4 : decode prog_2_method_3_code 4 = .ok (.iload_n 1, 1) := by decide +kernel
theorem d_Disk_pairAt_5 : decode prog_2_method_3_code 5 = .ok (.aload_n 0, 1) := by decide +kernel
theorem d_Disk_pairAt_6 : decode prog_2_method_3_code 6 = .ok (.getfield 15, 3) := by decide +kernel
theorem d_Disk_pairAt_9 : decode prog_2_method_3_code 9 = .ok (.arraylength, 1) := by decide +kernel
theorem d_Disk_pairAt_10 : decode prog_2_method_3_code 10 = .ok (.iconst 1, 1) := by decide +kernel
theorem d_Disk_pairAt_11 : decode prog_2_method_3_code 11 = .ok (.isub, 1) := by decide +kernel
theorem d_Disk_pairAt_12 : decode prog_2_method_3_code 12 = .ok (.if_icmp .ge 7, 3) := by decide +kernel
theorem d_Disk_pairAt_15 : decode prog_2_method_3_code 15 = .ok (.iconst 1, 1) := by decide +kernel
theorem d_Disk_pairAt_16 : decode prog_2_method_3_code 16 = .ok (.goto 4, 3) := by decide +kernel
theorem d_Disk_pairAt_19 : decode prog_2_method_3_code 19 = .ok (.iconst 0, 1) := by decide +kernel
theorem d_Disk_pairAt_20 : decode prog_2_method_3_code 20 = .ok (.istore_n 2, 1) := by decide +kernel
theorem d_Disk_pairAt_21 : decode prog_2_method_3_code 21 = .ok (.iload_n 2, 1) := by decide +kernel
theorem d_Disk_pairAt_22 : decode prog_2_method_3_code 22 = .ok (.ifCond .eq 25, 3) := by decide +kernel
theorem d_Disk_pairAt_25 : decode prog_2_method_3_code 25 = .ok (.aload_n 0, 1) := by decide +kernel
theorem d_Disk_pairAt_26 : decode prog_2_method_3_code 26 = .ok (.getfield 15, 3) := by decide +kernel
theorem d_Disk_pairAt_29 : decode prog_2_method_3_code 29 = .ok (.iload_n 1, 1) := by decide +kernel
theorem d_Disk_pairAt_30 : decode prog_2_method_3_code 30 = .ok (.iaload, 1) := by decide +kernel
theorem d_Disk_pairAt_31 : decode prog_2_method_3_code 31 = .ok (.sipush 256, 3) := by decide +kernel
theorem d_Disk_pairAt_34 : decode prog_2_method_3_code 34 = .ok (.aload_n 0, 1) := by decide +kernel
theorem d_Disk_pairAt_35 : decode prog_2_method_3_code 35 = .ok (.getfield 15, 3) := by decide +kernel
theorem d_Disk_pairAt_38 : decode prog_2_method_3_code 38 = .ok (.iload_n 1, 1) := by decide +kernel
theorem d_Disk_pairAt_39 : decode prog_2_method_3_code 39 = .ok (.iconst 1, 1) := by decide +kernel
theorem d_Disk_pairAt_40 : decode prog_2_method_3_code 40 = .ok (.iadd, 1) := by decide +kernel
theorem d_Disk_pairAt_41 : decode prog_2_method_3_code 41 = .ok (.iaload, 1) := by decide +kernel
theorem d_Disk_pairAt_42 : decode prog_2_method_3_code 42 = .ok (.imul, 1) := by decide +kernel
theorem d_Disk_pairAt_43 : decode prog_2_method_3_code 43 = .ok (.iadd, 1) := by decide +kernel
theorem d_Disk_pairAt_44 : decode prog_2_method_3_code 44 = .ok (.goto 4, 3) := by decide +kernel
theorem d_Disk_pairAt_47 : decode prog_2_method_3_code 47 = .ok (.iconst 0, 1) := by decide +kernel
theorem d_Disk_pairAt_48 : decode prog_2_method_3_code 48 = .ok (.ireturn, 1) := by decide +kernel
theorem d_Table_cell_0 : decode prog_7_method_2_code 0 = .ok (.aload_n 0, 1) := by decide +kernel
theorem d_Table_cell_1 : decode prog_7_method_2_code 1 = .ok (.getfield 9, 3) := by decide +kernel
theorem d_Table_cell_4 : decode prog_7_method_2_code 4 = .ok (.iconst 2, 1) := by decide +kernel
theorem d_Table_cell_5 : decode prog_7_method_2_code 5 = .ok (.iload_n 1, 1) := by decide +kernel
theorem d_Table_cell_6 : decode prog_7_method_2_code 6 = .ok (.imul, 1) := by decide +kernel
theorem d_Table_cell_7 : decode prog_7_method_2_code 7 = .ok (.invokevirtual 15, 3) := by decide +kernel
theorem d_Table_cell_10 : decode prog_7_method_2_code 10 = .ok (.ireturn, 1) := by decide +kernel
theorem d_Folder_load_0 : decode prog_3_method_2_code 0 = .ok (.aload_n 0, 1) := by decide +kernel
theorem d_Folder_load_1 : decode prog_3_method_2_code 1 = .ok (.iconst 0, 1) := by decide +kernel
theorem d_Folder_load_2 : decode prog_3_method_2_code 2 = .ok (.putfield 23, 3) := by decide +kernel
theorem d_Folder_load_5 : decode prog_3_method_2_code 5 = .ok (.iload_n 1, 1) := by decide +kernel
theorem d_Folder_load_6 : decode prog_3_method_2_code 6 = .ok (.istore_n 2, 1) := by decide +kernel
theorem d_Folder_load_7 : decode prog_3_method_2_code 7 = .ok (.iconst 0, 1) := by decide +kernel
theorem d_Folder_load_8 : decode prog_3_method_2_code 8 = .ok (.istore_n 3, 1) := by decide +kernel
theorem d_Folder_load_9 : decode prog_3_method_2_code 9 = .ok (.iload_n 3, 1) := by decide +kernel
theorem d_Folder_load_10 : decode prog_3_method_2_code 10 = .ok (.bipush 64, 2) := by decide +kernel
theorem d_Folder_load_12 : decode prog_3_method_2_code 12 = .ok (.if_icmp .ge 74, 3) := by decide +kernel
theorem d_Folder_load_15 : decode prog_3_method_2_code 15 = .ok (.iload_n 2, 1) := by decide +kernel
theorem d_Folder_load_16 : decode prog_3_method_2_code 16 = .ok (.invokestatic 27, 3) := by decide +kernel
theorem d_Folder_load_19 : decode prog_3_method_2_code 19 = .ok (.ifCond .eq 67, 3) := by decide +kernel
theorem d_Folder_load_22 : decode prog_3_method_2_code 22 = .ok (.iload_n 2, 1) := by decide +kernel
theorem d_Folder_load_23 : decode prog_3_method_2_code 23 = .ok (.invokestatic 31, 3) := by decide +kernel
theorem d_Folder_load_26 : decode prog_3_method_2_code 26 = .ok (.bipush 32, 2) := by decide +kernel
theorem d_Folder_load_28 : decode prog_3_method_2_code 28 = .ok (.imul, 1) := by decide +kernel
theorem d_Folder_load_29 : decode prog_3_method_2_code 29 = .ok (.istore 4, 2) := by decide +kernel
theorem d_Folder_load_31 : decode prog_3_method_2_code 31 = .ok (.aload_n 0, 1) := by decide +kernel
theorem d_Folder_load_32 : decode prog_3_method_2_code 32 = .ok (.getfield 19, 3) := by decide +kernel
theorem d_Folder_load_35 : decode prog_3_method_2_code 35 = .ok (.iconst 2, 1) := by decide +kernel
theorem d_Folder_load_36 : decode prog_3_method_2_code 36 = .ok (.iload_n 3, 1) := by decide +kernel
theorem d_Folder_load_37 : decode prog_3_method_2_code 37 = .ok (.imul, 1) := by decide +kernel
theorem d_Folder_load_38 : decode prog_3_method_2_code 38 = .ok (.iload 4, 2) := by decide +kernel
theorem d_Folder_load_40 : decode prog_3_method_2_code 40 = .ok (.iastore, 1) := by decide +kernel
theorem d_Folder_load_41 : decode prog_3_method_2_code 41 = .ok (.aload_n 0, 1) := by decide +kernel
theorem d_Folder_load_42 : decode prog_3_method_2_code 42 = .ok (.getfield 19, 3) := by decide +kernel
theorem d_Folder_load_45 : decode prog_3_method_2_code 45 = .ok (.iconst 2, 1) := by decide +kernel
theorem d_Folder_load_46 : decode prog_3_method_2_code 46 = .ok (.iload_n 3, 1) := by decide +kernel
theorem d_Folder_load_47 : decode prog_3_method_2_code 47 = .ok (.imul, 1) := by decide +kernel
theorem d_Folder_load_48 : decode prog_3_method_2_code 48 = .ok (.iconst 1, 1) := by decide +kernel
theorem d_Folder_load_49 : decode prog_3_method_2_code 49 = .ok (.iadd, 1) := by decide +kernel
theorem d_Folder_load_50 : decode prog_3_method_2_code 50 = .ok (.iload 4, 2) := by decide +kernel
theorem d_Folder_load_52 : decode prog_3_method_2_code 52 = .ok (.bipush 16, 2) := by decide +kernel
theorem d_Folder_load_54 : decode prog_3_method_2_code 54 = .ok (.iadd, 1) := by decide +kernel
theorem d_Folder_load_55 : decode prog_3_method_2_code 55 = .ok (.iastore, 1) := by decide +kernel
theorem d_Folder_load_56 : decode prog_3_method_2_code 56 = .ok (.aload_n 0, 1) := by decide +kernel
theorem d_Folder_load_57 : decode prog_3_method_2_code 57 = .ok (.dup, 1) := by decide +kernel
theorem d_Folder_load_58 : decode prog_3_method_2_code 58 = .ok (.getfield 23, 3) := by decide +kernel
theorem d_Folder_load_61 : decode prog_3_method_2_code 61 = .ok (.iconst 2, 1) := by decide +kernel
theorem d_Folder_load_62 : decode prog_3_method_2_code 62 = .ok (.iadd, 1) := by decide +kernel
theorem d_Folder_load_63 : decode prog_3_method_2_code 63 = .ok (.putfield 23, 3) := by decide +kernel
theorem d_Folder_load_66 : decode prog_3_method_2_code 66 = .ok (.aload_n 0, 1) := by decide +kernel
theorem d_Folder_load_67 : decode prog_3_method_2_code 67 = .ok (.iload_n 2, 1) := by decide +kernel
theorem d_Folder_load_68 : decode prog_3_method_2_code 68 = .ok (.putfield 35, 3) := by decide +kernel
theorem d_Folder_load_71 : decode prog_3_method_2_code 71 = .ok (.aload_n 0, 1) := by decide +kernel
theorem d_Folder_load_72 : decode prog_3_method_2_code 72 = .ok (.getfield 15, 3) := by decide +kernel
theorem d_Folder_load_75 : decode prog_3_method_2_code 75 = .ok (.iload_n 2, 1) := by decide +kernel
theorem d_Folder_load_76 : decode prog_3_method_2_code 76 = .ok (.invokevirtual 38, 3) := by decide +kernel
theorem d_Folder_load_79 : decode prog_3_method_2_code 79 = .ok (.istore_n 2, 1) := by decide +kernel
theorem d_Folder_load_80 : decode prog_3_method_2_code 80 = .ok (.iinc 3 1, 3) := by decide +kernel
theorem d_Folder_load_83 : decode prog_3_method_2_code 83 = .ok (.goto (-74), 3) := by decide +kernel
theorem d_Folder_load_86 : decode prog_3_method_2_code 86 = .ok (.return_, 1) := by decide +kernel
theorem d_Disk_at_0 : decode prog_2_method_2_code 0 = .ok (.iload_n 1, 1) := by decide +kernel
theorem d_Disk_at_1 : decode prog_2_method_2_code 1 = .ok (.ifCond .lt 21, 3) := by decide +kernel
theorem d_Disk_at_4 : decode prog_2_method_2_code 4 = .ok (.iload_n 1, 1) := by decide +kernel
theorem d_Disk_at_5 : decode prog_2_method_2_code 5 = .ok (.aload_n 0, 1) := by decide +kernel
theorem d_Disk_at_6 : decode prog_2_method_2_code 6 = .ok (.getfield 15, 3) := by decide +kernel
theorem d_Disk_at_9 : decode prog_2_method_2_code 9 = .ok (.arraylength, 1) := by decide +kernel
theorem d_Disk_at_10 : decode prog_2_method_2_code 10 = .ok (.if_icmp .ge 12, 3) := by decide +kernel
theorem d_Disk_at_13 : decode prog_2_method_2_code 13 = .ok (.aload_n 0, 1) := by decide +kernel
theorem d_Disk_at_14 : decode prog_2_method_2_code 14 = .ok (.getfield 15, 3) := by decide +kernel
theorem d_Disk_at_17 : decode prog_2_method_2_code 17 = .ok (.iload_n 1, 1) := by decide +kernel
theorem d_Disk_at_18 : decode prog_2_method_2_code 18 = .ok (.iaload, 1) := by decide +kernel
theorem d_Disk_at_19 : decode prog_2_method_2_code 19 = .ok (.goto 4, 3) := by decide +kernel
theorem d_Disk_at_22 : decode prog_2_method_2_code 22 = .ok (.iconst 0, 1) := by decide +kernel
theorem d_Disk_at_23 : decode prog_2_method_2_code 23 = .ok (.ireturn, 1) := by decide +kernel
theorem d_Folder_byteOf_0 : decode prog_3_method_4_code 0 = .ok (.iload_n 1, 1) := by decide +kernel
theorem d_Folder_byteOf_1 : decode prog_3_method_4_code 1 = .ok (.ifCond .lt 29, 3) := by decide +kernel
theorem d_Folder_byteOf_4 : decode prog_3_method_4_code 4 = .ok (.iload_n 1, 1) := by decide +kernel
theorem d_Folder_byteOf_5 : decode prog_3_method_4_code 5 = .ok (.aload_n 0, 1) := by decide +kernel
theorem d_Folder_byteOf_6 : decode prog_3_method_4_code 6 = .ok (.getfield 23, 3) := by decide +kernel
theorem d_Folder_byteOf_9 : decode prog_3_method_4_code 9 = .ok (.if_icmp .ge 21, 3) := by decide +kernel
theorem d_Folder_byteOf_12 : decode prog_3_method_4_code 12 = .ok (.aload_n 0, 1) := by decide +kernel
theorem d_Folder_byteOf_13 : decode prog_3_method_4_code 13 = .ok (.getfield 9, 3) := by decide +kernel
theorem d_Folder_byteOf_16 : decode prog_3_method_4_code 16 = .ok (.aload_n 0, 1) := by decide +kernel
theorem d_Folder_byteOf_17 : decode prog_3_method_4_code 17 = .ok (.getfield 19, 3) := by decide +kernel
theorem d_Folder_byteOf_20 : decode prog_3_method_4_code 20 = .ok (.iload_n 1, 1) := by decide +kernel
theorem d_Folder_byteOf_21 : decode prog_3_method_4_code 21 = .ok (.iaload, 1) := by decide +kernel
theorem d_Folder_byteOf_22 : decode prog_3_method_4_code 22 = .ok (.iload_n 2, 1) := by decide +kernel
theorem d_Folder_byteOf_23 : decode prog_3_method_4_code 23 = .ok (.iadd, 1) := by decide +kernel
theorem d_Folder_byteOf_24 : decode prog_3_method_4_code 24 = .ok (.invokevirtual 43, 3) := by decide +kernel
theorem d_Folder_byteOf_27 : decode prog_3_method_4_code 27 = .ok (.goto 4, 3) := by decide +kernel
theorem d_Folder_byteOf_30 : decode prog_3_method_4_code 30 = .ok (.iconst 0, 1) := by decide +kernel
theorem d_Folder_byteOf_31 : decode prog_3_method_4_code 31 = .ok (.ireturn, 1) := by decide +kernel
theorem d_Folder_kindOf_0 : decode prog_3_method_7_code 0 = .ok (.aload_n 0, 1) := by decide +kernel
theorem d_Folder_kindOf_1 : decode prog_3_method_7_code 1 = .ok (.iload_n 1, 1) := by decide +kernel
theorem d_Folder_kindOf_2 : decode prog_3_method_7_code 2 = .ok (.bipush 6, 2) := by decide +kernel
theorem d_Folder_kindOf_4 : decode prog_3_method_7_code 4 = .ok (.invokevirtual 51, 3) := by decide +kernel
theorem d_Folder_kindOf_7 : decode prog_3_method_7_code 7 = .ok (.ireturn, 1) := by decide +kernel
theorem d_Folder_isNamed_0 : decode prog_3_method_10_code 0 = .ok (.aload_n 0, 1) := by decide +kernel
theorem d_Folder_isNamed_1 : decode prog_3_method_10_code 1 = .ok (.iload_n 1, 1) := by decide +kernel
theorem d_Folder_isNamed_2 : decode prog_3_method_10_code 2 = .ok (.iconst 0, 1) := by decide +kernel
theorem d_Folder_isNamed_3 : decode prog_3_method_10_code 3 = .ok (.invokevirtual 51, 3) := by decide +kernel
theorem d_Folder_isNamed_6 : decode prog_3_method_10_code 6 = .ok (.istore_n 2, 1) := by decide +kernel
theorem d_Folder_isNamed_7 : decode prog_3_method_10_code 7 = .ok (.aload_n 0, 1) := by decide +kernel
theorem d_Folder_isNamed_8 : decode prog_3_method_10_code 8 = .ok (.iload_n 1, 1) := by decide +kernel
theorem d_Folder_isNamed_9 : decode prog_3_method_10_code 9 = .ok (.bipush 6, 2) := by decide +kernel
theorem d_Folder_isNamed_11 : decode prog_3_method_10_code 11 = .ok (.invokevirtual 51, 3) := by decide +kernel
theorem d_Folder_isNamed_14 : decode prog_3_method_10_code 14 = .ok (.istore_n 3, 1) := by decide +kernel
theorem d_Folder_isNamed_15 : decode prog_3_method_10_code 15 = .ok (.iload_n 2, 1) := by decide +kernel
theorem d_Folder_isNamed_16 : decode prog_3_method_10_code 16 = .ok (.ifCond .eq 24, 3) := by decide +kernel
theorem d_Folder_isNamed_19 : decode prog_3_method_10_code 19 = .ok (.iload_n 2, 1) := by decide +kernel
theorem d_Folder_isNamed_20 : decode prog_3_method_10_code 20 = .ok (.sipush 229, 3) := by decide +kernel
theorem d_Folder_isNamed_23 : decode prog_3_method_10_code 23 = .ok (.if_icmp .eq 17, 3) := by decide +kernel
theorem d_Folder_isNamed_26 : decode prog_3_method_10_code 26 = .ok (.iload_n 3, 1) := by decide +kernel
theorem d_Folder_isNamed_27 : decode prog_3_method_10_code 27 = .ok (.iconst 1, 1) := by decide +kernel
theorem d_Folder_isNamed_28 : decode prog_3_method_10_code 28 = .ok (.if_icmp .eq 8, 3) := by decide +kernel
theorem d_Folder_isNamed_31 : decode prog_3_method_10_code 31 = .ok (.iload_n 3, 1) := by decide +kernel
theorem d_Folder_isNamed_32 : decode prog_3_method_10_code 32 = .ok (.iconst 2, 1) := by decide +kernel
theorem d_Folder_isNamed_33 : decode prog_3_method_10_code 33 = .ok (.if_icmp .ne 7, 3) := by decide +kernel
theorem d_Folder_isNamed_36 : decode prog_3_method_10_code 36 = .ok (.iconst 1, 1) := by decide +kernel
theorem d_Folder_isNamed_37 : decode prog_3_method_10_code 37 = .ok (.goto 4, 3) := by decide +kernel
theorem d_Folder_isNamed_40 : decode prog_3_method_10_code 40 = .ok (.iconst 0, 1) := by decide +kernel
theorem d_Folder_isNamed_41 : decode prog_3_method_10_code 41 = .ok (.ireturn, 1) := by decide +kernel
theorem d_Folder_shortLengthOf_0 : decode prog_3_method_20_code 0 = .ok (.iconst 0, 1) := by decide +kernel
theorem d_Folder_shortLengthOf_1 : decode prog_3_method_20_code 1 = .ok (.istore_n 2, 1) := by decide +kernel
theorem d_Folder_shortLengthOf_2 : decode prog_3_method_20_code 2 = .ok (.iload_n 2, 1) := by decide +kernel
theorem d_Folder_shortLengthOf_3 : decode prog_3_method_20_code 3 = .ok (.bipush 6, 2) := by decide +kernel
theorem d_Folder_shortLengthOf_5 : decode prog_3_method_20_code 5 = .ok (.if_icmp .ge 28, 3) := by decide +kernel
theorem d_Folder_shortLengthOf_8 : decode prog_3_method_20_code 8 = .ok (.aload_n 0, 1) := by decide +kernel
theorem d_Folder_shortLengthOf_9 : decode prog_3_method_20_code 9 = .ok (.iload_n 1, 1) := by decide +kernel
theorem d_Folder_shortLengthOf_10 : decode prog_3_method_20_code 10 = .ok (.iload_n 2, 1) := by decide +kernel
theorem d_Folder_shortLengthOf_11 : decode prog_3_method_20_code 11 = .ok (.invokevirtual 51, 3) := by decide +kernel
theorem d_Folder_shortLengthOf_14 : decode prog_3_method_20_code 14 = .ok (.istore_n 3, 1) := by decide +kernel
theorem d_Folder_shortLengthOf_15 : decode prog_3_method_20_code 15 = .ok (.iload_n 3, 1) := by decide +kernel
theorem d_Folder_shortLengthOf_16 : decode prog_3_method_20_code 16 = .ok (.bipush 32, 2) := by decide +kernel
theorem d_Folder_shortLengthOf_18 : decode prog_3_method_20_code 18 = .ok (.if_icmp .eq 7, 3) := by decide +kernel
theorem d_Folder_shortLengthOf_21 : decode prog_3_method_20_code 21 = .ok (.iload_n 3, 1) := by decide +kernel
theorem d_Folder_shortLengthOf_22 : decode prog_3_method_20_code 22 = .ok (.ifCond .ne 5, 3) := by decide +kernel
theorem d_Folder_shortLengthOf_25 : decode prog_3_method_20_code 25 = .ok (.iload_n 2, 1) := by decide +kernel
theorem d_Folder_shortLengthOf_26 : decode prog_3_method_20_code 26 = .ok (.ireturn, 1) := by decide +kernel
theorem d_Folder_shortLengthOf_27 : decode prog_3_method_20_code 27 = .ok (.iinc 2 1, 3) := by decide +kernel
theorem d_Folder_shortLengthOf_30 : decode prog_3_method_20_code 30 = .ok (.goto (-28), 3) := by decide +kernel
theorem d_Folder_shortLengthOf_33 : decode prog_3_method_20_code 33 = .ok (.bipush 6, 2) := by decide +kernel
theorem d_Folder_shortLengthOf_35 : decode prog_3_method_20_code 35 = .ok (.ireturn, 1) := by decide +kernel
theorem d_V_capital_0 : decode prog_1_method_32_code 0 = .ok (.iload_n 0, 1) := by decide +kernel
theorem d_V_capital_1 : decode prog_1_method_32_code 1 = .ok (.bipush 97, 2) := by decide +kernel
theorem d_V_capital_3 : decode prog_1_method_32_code 3 = .ok (.if_icmp .lt 19, 3) := by decide +kernel
theorem d_V_capital_6 : decode prog_1_method_32_code 6 = .ok (.iload_n 0, 1) := by decide +kernel
theorem d_V_capital_7 : decode prog_1_method_32_code 7 = .ok (.bipush 122, 2) := by decide +kernel
theorem d_V_capital_9 : decode prog_1_method_32_code 9 = .ok (.if_icmp .gt 13, 3) := by decide +kernel
theorem d_V_capital_12 : decode prog_1_method_32_code 12 = .ok (.iload_n 0, 1) := by decide +kernel
theorem d_V_capital_13 : decode prog_1_method_32_code 13 = .ok (.bipush 97, 2) := by decide +kernel
theorem d_V_capital_15 : decode prog_1_method_32_code 15 = .ok (.isub, 1) := by decide +kernel
theorem d_V_capital_16 : decode prog_1_method_32_code 16 = .ok (.bipush 65, 2) := by decide +kernel
theorem d_V_capital_18 : decode prog_1_method_32_code 18 = .ok (.iadd, 1) := by decide +kernel
theorem d_V_capital_19 : decode prog_1_method_32_code 19 = .ok (.goto 4, 3) := by decide +kernel
theorem d_V_capital_22 : decode prog_1_method_32_code 22 = .ok (.iload_n 0, 1) := by decide +kernel
theorem d_V_capital_23 : decode prog_1_method_32_code 23 = .ok (.ireturn, 1) := by decide +kernel
theorem d_Folder_isShortCalled_0 : decode prog_3_method_16_code 0 = .ok (.aload_n 0, 1) := by decide +kernel
theorem d_Folder_isShortCalled_1 : decode prog_3_method_16_code 1 = .ok (.iload_n 1, 1) := by decide +kernel
theorem d_Folder_isShortCalled_2 : decode prog_3_method_16_code 2 = .ok (.invokevirtual 81, 3) := by decide +kernel
theorem d_Folder_isShortCalled_5 : decode prog_3_method_16_code 5 = .ok (.aload_n 2, 1) := by decide +kernel
theorem d_Folder_isShortCalled_6 : decode prog_3_method_16_code 6 = .ok (.getfield 84, 3) := by decide +kernel
theorem d_Folder_isShortCalled_9 : decode prog_3_method_16_code 9 = .ok (.if_icmp .eq 5, 3) := by decide +kernel
theorem d_Folder_isShortCalled_12 : decode prog_3_method_16_code 12 = .ok (.iconst 0, 1) := by decide +kernel
theorem d_Folder_isShortCalled_13 : decode prog_3_method_16_code 13 = .ok (.ireturn, 1) := by decide +kernel
theorem d_Folder_isShortCalled_14 : decode prog_3_method_16_code 14 = .ok (.iconst 0, 1) := by decide +kernel
theorem d_Folder_isShortCalled_15 : decode prog_3_method_16_code 15 = .ok (.istore_n 3, 1) := by decide +kernel
theorem d_Folder_isShortCalled_16 : decode prog_3_method_16_code 16 = .ok (.iload_n 3, 1) := by decide +kernel
theorem d_Folder_isShortCalled_17 : decode prog_3_method_16_code 17 = .ok (.aload_n 2, 1) := by decide +kernel
theorem d_Folder_isShortCalled_18 : decode prog_3_method_16_code 18 = .ok (.getfield 84, 3) := by decide +kernel
theorem d_Folder_isShortCalled_21 : decode prog_3_method_16_code 21 = .ok (.if_icmp .ge 31, 3) := by decide +kernel
theorem d_Folder_isShortCalled_24 : decode prog_3_method_16_code 24 = .ok (.aload_n 0, 1) := by decide +kernel
theorem d_Folder_isShortCalled_25 : decode prog_3_method_16_code 25 = .ok (.iload_n 1, 1) := by decide +kernel
theorem d_Folder_isShortCalled_26 : decode prog_3_method_16_code 26 = .ok (.iload_n 3, 1) := by decide +kernel
theorem d_Folder_isShortCalled_27 : decode prog_3_method_16_code 27 = .ok (.invokevirtual 51, 3) := by decide +kernel
theorem d_Folder_isShortCalled_30 : decode prog_3_method_16_code 30 = .ok (.invokestatic 89, 3) := by decide +kernel
theorem d_Folder_isShortCalled_33 : decode prog_3_method_16_code 33 = .ok (.aload_n 2, 1) := by decide +kernel
theorem d_Folder_isShortCalled_34 : decode prog_3_method_16_code 34 = .ok (.iload_n 3, 1) := by decide +kernel
theorem d_Folder_isShortCalled_35 : decode prog_3_method_16_code 35 = .ok (.invokevirtual 92, 3) := by decide +kernel
theorem d_Folder_isShortCalled_38 : decode prog_3_method_16_code 38 = .ok (.invokestatic 89, 3) := by decide +kernel
theorem d_Folder_isShortCalled_41 : decode prog_3_method_16_code 41 = .ok (.if_icmp .eq 5, 3) := by decide +kernel
theorem d_Folder_isShortCalled_44 : decode prog_3_method_16_code 44 = .ok (.iconst 0, 1) := by decide +kernel
theorem d_Folder_isShortCalled_45 : decode prog_3_method_16_code 45 = .ok (.ireturn, 1) := by decide +kernel
theorem d_Folder_isShortCalled_46 : decode prog_3_method_16_code 46 = .ok (.iinc 3 1, 3) := by decide +kernel
theorem d_Folder_isShortCalled_49 : decode prog_3_method_16_code 49 = .ok (.goto (-33), 3) := by decide +kernel
theorem d_Folder_isShortCalled_52 : decode prog_3_method_16_code 52 = .ok (.iconst 1, 1) := by decide +kernel
theorem d_Folder_isShortCalled_53 : decode prog_3_method_16_code 53 = .ok (.ireturn, 1) := by decide +kernel
theorem d_V_addToSum_0 : decode prog_1_method_33_code 0 = .ok (.iload_n 0, 1) := by decide +kernel
theorem d_V_addToSum_1 : decode prog_1_method_33_code 1 = .ok (.iconst 2, 1) := by decide +kernel
theorem d_V_addToSum_2 : decode prog_1_method_33_code 2 = .ok (.imul, 1) := by decide +kernel
theorem d_V_addToSum_3 : decode prog_1_method_33_code 3 = .ok (.iload_n 0, 1) := by decide +kernel
theorem d_V_addToSum_4 : decode prog_1_method_33_code 4 = .ok (.sipush 128, 3) := by decide +kernel
theorem d_V_addToSum_7 : decode prog_1_method_33_code 7 = .ok (.idiv, 1) := by decide +kernel
theorem d_V_addToSum_8 : decode prog_1_method_33_code 8 = .ok (.iadd, 1) := by decide +kernel
theorem d_V_addToSum_9 : decode prog_1_method_33_code 9 = .ok (.iload_n 1, 1) := by decide +kernel
theorem d_V_addToSum_10 : decode prog_1_method_33_code 10 = .ok (.iadd, 1) := by decide +kernel
theorem d_V_addToSum_11 : decode prog_1_method_33_code 11 = .ok (.sipush 255, 3) := by decide +kernel
theorem d_V_addToSum_14 : decode prog_1_method_33_code 14 = .ok (.iand, 1) := by decide +kernel
theorem d_V_addToSum_15 : decode prog_1_method_33_code 15 = .ok (.ireturn, 1) := by decide +kernel
theorem d_Folder_sumOf_0 : decode prog_3_method_22_code 0 = .ok (.iconst 0, 1) := by decide +kernel
theorem d_Folder_sumOf_1 : decode prog_3_method_22_code 1 = .ok (.istore_n 2, 1) := by decide +kernel
theorem d_Folder_sumOf_2 : decode prog_3_method_22_code 2 = .ok (.iconst 0, 1) := by decide +kernel
theorem d_Folder_sumOf_3 : decode prog_3_method_22_code 3 = .ok (.istore_n 3, 1) := by decide +kernel
theorem d_Folder_sumOf_4 : decode prog_3_method_22_code 4 = .ok (.iload_n 3, 1) := by decide +kernel
theorem d_Folder_sumOf_5 : decode prog_3_method_22_code 5 = .ok (.bipush 6, 2) := by decide +kernel
theorem d_Folder_sumOf_7 : decode prog_3_method_22_code 7 = .ok (.if_icmp .ge 20, 3) := by decide +kernel
theorem d_Folder_sumOf_10 : decode prog_3_method_22_code 10 = .ok (.iload_n 2, 1) := by decide +kernel
theorem d_Folder_sumOf_11 : decode prog_3_method_22_code 11 = .ok (.aload_n 0, 1) := by decide +kernel
theorem d_Folder_sumOf_12 : decode prog_3_method_22_code 12 = .ok (.iload_n 1, 1) := by decide +kernel
theorem d_Folder_sumOf_13 : decode prog_3_method_22_code 13 = .ok (.iload_n 3, 1) := by decide +kernel
theorem d_Folder_sumOf_14 : decode prog_3_method_22_code 14 = .ok (.invokevirtual 51, 3) := by decide +kernel
theorem d_Folder_sumOf_17 : decode prog_3_method_22_code 17 = .ok (.invokestatic 105, 3) := by decide +kernel
theorem d_Folder_sumOf_20 : decode prog_3_method_22_code 20 = .ok (.istore_n 2, 1) := by decide +kernel
theorem d_Folder_sumOf_21 : decode prog_3_method_22_code 21 = .ok (.iinc 3 1, 3) := by decide +kernel
theorem d_Folder_sumOf_24 : decode prog_3_method_22_code 24 = .ok (.goto (-20), 3) := by decide +kernel
theorem d_Folder_sumOf_27 : decode prog_3_method_22_code 27 = .ok (.iload_n 2, 1) := by decide +kernel
theorem d_Folder_sumOf_28 : decode prog_3_method_22_code 28 = .ok (.ireturn, 1) := by decide +kernel
theorem d_Folder_isPart_0 : decode prog_3_method_24_code 0 = .ok (.aload_n 0, 1) := by decide +kernel
theorem d_Folder_isPart_1 : decode prog_3_method_24_code 1 = .ok (.iload_n 1, 1) := by decide +kernel
theorem d_Folder_isPart_2 : decode prog_3_method_24_code 2 = .ok (.iconst 0, 1) := by decide +kernel
theorem d_Folder_isPart_3 : decode prog_3_method_24_code 3 = .ok (.invokevirtual 51, 3) := by decide +kernel
theorem d_Folder_isPart_6 : decode prog_3_method_24_code 6 = .ok (.iload_n 2, 1) := by decide +kernel
theorem d_Folder_isPart_7 : decode prog_3_method_24_code 7 = .ok (.if_icmp .ne 30, 3) := by decide +kernel
theorem d_Folder_isPart_10 : decode prog_3_method_24_code 10 = .ok (.aload_n 0, 1) := by decide +kernel
theorem d_Folder_isPart_11 : decode prog_3_method_24_code 11 = .ok (.iload_n 1, 1) := by decide +kernel
theorem d_Folder_isPart_12 : decode prog_3_method_24_code 12 = .ok (.bipush 6, 2) := by decide +kernel
theorem d_Folder_isPart_14 : decode prog_3_method_24_code 14 = .ok (.invokevirtual 51, 3) := by decide +kernel
theorem d_Folder_isPart_17 : decode prog_3_method_24_code 17 = .ok (.bipush 15, 2) := by decide +kernel
theorem d_Folder_isPart_19 : decode prog_3_method_24_code 19 = .ok (.if_icmp .ne 18, 3) := by decide +kernel
theorem d_Folder_isPart_22 : decode prog_3_method_24_code 22 = .ok (.aload_n 0, 1) := by decide +kernel
theorem d_Folder_isPart_23 : decode prog_3_method_24_code 23 = .ok (.iload_n 1, 1) := by decide +kernel
theorem d_Folder_isPart_24 : decode prog_3_method_24_code 24 = .ok (.bipush 7, 2) := by decide +kernel
theorem d_Folder_isPart_26 : decode prog_3_method_24_code 26 = .ok (.invokevirtual 51, 3) := by decide +kernel
theorem d_Folder_isPart_29 : decode prog_3_method_24_code 29 = .ok (.iload_n 3, 1) := by decide +kernel
theorem d_Folder_isPart_30 : decode prog_3_method_24_code 30 = .ok (.if_icmp .ne 7, 3) := by decide +kernel
theorem d_Folder_isPart_33 : decode prog_3_method_24_code 33 = .ok (.iconst 1, 1) := by decide +kernel
theorem d_Folder_isPart_34 : decode prog_3_method_24_code 34 = .ok (.goto 4, 3) := by decide +kernel
theorem d_Folder_isPart_37 : decode prog_3_method_24_code 37 = .ok (.iconst 0, 1) := by decide +kernel
theorem d_Folder_isPart_38 : decode prog_3_method_24_code 38 = .ok (.ireturn, 1) := by decide +kernel
theorem d_Folder_partsOf_0 : decode prog_3_method_23_code 0 = .ok (.aload_n 0, 1) := by decide +kernel
theorem d_Folder_partsOf_1 : decode prog_3_method_23_code 1 = .ok (.iload_n 1, 1) := by decide +kernel
theorem d_Folder_partsOf_2 : decode prog_3_method_23_code 2 = .ok (.invokevirtual 61, 3) := by decide +kernel
theorem d_Folder_partsOf_5 : decode prog_3_method_23_code 5 = .ok (.ifCond .ne 5, 3) := by decide +kernel
theorem d_Folder_partsOf_8 : decode prog_3_method_23_code 8 = .ok (.iconst 0, 1) := by decide +kernel
theorem d_Folder_partsOf_9 : decode prog_3_method_23_code 9 = .ok (.ireturn, 1) := by decide +kernel
theorem d_Folder_partsOf_10 : decode prog_3_method_23_code 10 = .ok (.aload_n 0, 1) := by decide +kernel
theorem d_Folder_partsOf_11 : decode prog_3_method_23_code 11 = .ok (.iload_n 1, 1) := by decide +kernel
theorem d_Folder_partsOf_12 : decode prog_3_method_23_code 12 = .ok (.invokevirtual 108, 3) := by decide +kernel
theorem d_Folder_partsOf_15 : decode prog_3_method_23_code 15 = .ok (.istore_n 2, 1) := by decide +kernel
theorem d_Folder_partsOf_16 : decode prog_3_method_23_code 16 = .ok (.aload_n 0, 1) := by decide +kernel
theorem d_Folder_partsOf_17 : decode prog_3_method_23_code 17 = .ok (.iload_n 1, 1) := by decide +kernel
theorem d_Folder_partsOf_18 : decode prog_3_method_23_code 18 = .ok (.iconst 1, 1) := by decide +kernel
theorem d_Folder_partsOf_19 : decode prog_3_method_23_code 19 = .ok (.isub, 1) := by decide +kernel
theorem d_Folder_partsOf_20 : decode prog_3_method_23_code 20 = .ok (.bipush 65, 2) := by decide +kernel
theorem d_Folder_partsOf_22 : decode prog_3_method_23_code 22 = .ok (.iload_n 2, 1) := by decide +kernel
theorem d_Folder_partsOf_23 : decode prog_3_method_23_code 23 = .ok (.invokevirtual 111, 3) := by decide +kernel
theorem d_Folder_partsOf_26 : decode prog_3_method_23_code 26 = .ok (.ifCond .eq 5, 3) := by decide +kernel
theorem d_Folder_partsOf_29 : decode prog_3_method_23_code 29 = .ok (.iconst 1, 1) := by decide +kernel
theorem d_Folder_partsOf_30 : decode prog_3_method_23_code 30 = .ok (.ireturn, 1) := by decide +kernel
theorem d_Folder_partsOf_31 : decode prog_3_method_23_code 31 = .ok (.aload_n 0, 1) := by decide +kernel
theorem d_Folder_partsOf_32 : decode prog_3_method_23_code 32 = .ok (.iload_n 1, 1) := by decide +kernel
theorem d_Folder_partsOf_33 : decode prog_3_method_23_code 33 = .ok (.iconst 1, 1) := by decide +kernel
theorem d_Folder_partsOf_34 : decode prog_3_method_23_code 34 = .ok (.isub, 1) := by decide +kernel
theorem d_Folder_partsOf_35 : decode prog_3_method_23_code 35 = .ok (.iconst 1, 1) := by decide +kernel
theorem d_Folder_partsOf_36 : decode prog_3_method_23_code 36 = .ok (.iload_n 2, 1) := by decide +kernel
theorem d_Folder_partsOf_37 : decode prog_3_method_23_code 37 = .ok (.invokevirtual 111, 3) := by decide +kernel
theorem d_Folder_partsOf_40 : decode prog_3_method_23_code 40 = .ok (.ifCond .eq 20, 3) := by decide +kernel
theorem d_Folder_partsOf_43 : decode prog_3_method_23_code 43 = .ok (.aload_n 0, 1) := by decide +kernel
theorem d_Folder_partsOf_44 : decode prog_3_method_23_code 44 = .ok (.iload_n 1, 1) := by decide +kernel
theorem d_Folder_partsOf_45 : decode prog_3_method_23_code 45 = .ok (.iconst 2, 1) := by decide +kernel
theorem d_Folder_partsOf_46 : decode prog_3_method_23_code 46 = .ok (.isub, 1) := by decide +kernel
theorem d_Folder_partsOf_47 : decode prog_3_method_23_code 47 = .ok (.bipush 66, 2) := by decide +kernel
theorem d_Folder_partsOf_49 : decode prog_3_method_23_code 49 = .ok (.iload_n 2, 1) := by decide +kernel
theorem d_Folder_partsOf_50 : decode prog_3_method_23_code 50 = .ok (.invokevirtual 111, 3) := by decide +kernel
theorem d_Folder_partsOf_53 : decode prog_3_method_23_code 53 = .ok (.ifCond .eq 7, 3) := by decide +kernel
theorem d_Folder_partsOf_56 : decode prog_3_method_23_code 56 = .ok (.iconst 1, 1) := by decide +kernel
theorem d_Folder_partsOf_57 : decode prog_3_method_23_code 57 = .ok (.goto 4, 3) := by decide +kernel
theorem d_Folder_partsOf_60 : decode prog_3_method_23_code 60 = .ok (.iconst 0, 1) := by decide +kernel
theorem d_Folder_partsOf_61 : decode prog_3_method_23_code 61 = .ok (.istore_n 3, 1) := by decide +kernel
theorem d_Folder_partsOf_62 : decode prog_3_method_23_code 62 = .ok (.iload_n 3, 1) := by decide +kernel
theorem d_Folder_partsOf_63 : decode prog_3_method_23_code 63 = .ok (.ifCond .eq 7, 3) := by decide +kernel
theorem d_Folder_partsOf_66 : decode prog_3_method_23_code 66 = .ok (.iconst 2, 1) := by decide +kernel
theorem d_Folder_partsOf_67 : decode prog_3_method_23_code 67 = .ok (.goto 4, 3) := by decide +kernel
theorem d_Folder_partsOf_70 : decode prog_3_method_23_code 70 = .ok (.iconst 0, 1) := by decide +kernel
theorem d_Folder_partsOf_71 : decode prog_3_method_23_code 71 = .ok (.ireturn, 1) := by decide +kernel
theorem d_V_placeInPart_0 : decode prog_1_method_34_code 0 = .ok (.iload_n 0, 1) := by decide +kernel
theorem d_V_placeInPart_1 : decode prog_1_method_34_code 1 = .ok (.iconst 5, 1) := by decide +kernel
theorem d_V_placeInPart_2 : decode prog_1_method_34_code 2 = .ok (.if_icmp .ge 9, 3) := by decide +kernel
theorem d_V_placeInPart_5 : decode prog_1_method_34_code 5 = .ok (.iload_n 0, 1) := by decide +kernel
theorem d_V_placeInPart_6 : decode prog_1_method_34_code 6 = .ok (.iconst 1, 1) := by decide +kernel
theorem d_V_placeInPart_7 : decode prog_1_method_34_code 7 = .ok (.iadd, 1) := by decide +kernel
theorem d_V_placeInPart_8 : decode prog_1_method_34_code 8 = .ok (.goto 6, 3) := by decide +kernel
theorem d_V_placeInPart_11 : decode prog_1_method_34_code 11 = .ok (.iload_n 0, 1) := by decide +kernel
theorem d_V_placeInPart_12 : decode prog_1_method_34_code 12 = .ok (.iconst 3, 1) := by decide +kernel
theorem d_V_placeInPart_13 : decode prog_1_method_34_code 13 = .ok (.iadd, 1) := by decide +kernel
theorem d_V_placeInPart_14 : decode prog_1_method_34_code 14 = .ok (.ireturn, 1) := by decide +kernel
theorem d_Folder_longByteOf_0 : decode prog_3_method_26_code 0 = .ok (.aload_n 0, 1) := by decide +kernel
theorem d_Folder_longByteOf_1 : decode prog_3_method_26_code 1 = .ok (.iload_n 1, 1) := by decide +kernel
theorem d_Folder_longByteOf_2 : decode prog_3_method_26_code 2 = .ok (.iconst 1, 1) := by decide +kernel
theorem d_Folder_longByteOf_3 : decode prog_3_method_26_code 3 = .ok (.isub, 1) := by decide +kernel
theorem d_Folder_longByteOf_4 : decode prog_3_method_26_code 4 = .ok (.iload_n 2, 1) := by decide +kernel
theorem d_Folder_longByteOf_5 : decode prog_3_method_26_code 5 = .ok (.bipush 13, 2) := by decide +kernel
theorem d_Folder_longByteOf_7 : decode prog_3_method_26_code 7 = .ok (.idiv, 1) := by decide +kernel
theorem d_Folder_longByteOf_8 : decode prog_3_method_26_code 8 = .ok (.isub, 1) := by decide +kernel
theorem d_Folder_longByteOf_9 : decode prog_3_method_26_code 9 = .ok (.iload_n 2, 1) := by decide +kernel
theorem d_Folder_longByteOf_10 : decode prog_3_method_26_code 10 = .ok (.bipush 13, 2) := by decide +kernel
theorem d_Folder_longByteOf_12 : decode prog_3_method_26_code 12 = .ok (.irem, 1) := by decide +kernel
theorem d_Folder_longByteOf_13 : decode prog_3_method_26_code 13 = .ok (.invokestatic 115, 3) := by decide +kernel
theorem d_Folder_longByteOf_16 : decode prog_3_method_26_code 16 = .ok (.invokevirtual 51, 3) := by decide +kernel
theorem d_Folder_longByteOf_19 : decode prog_3_method_26_code 19 = .ok (.ireturn, 1) := by decide +kernel
theorem d_Folder_longLengthOf_0 : decode prog_3_method_27_code 0 = .ok (.iconst 0, 1) := by decide +kernel
theorem d_Folder_longLengthOf_1 : decode prog_3_method_27_code 1 = .ok (.istore_n 3, 1) := by decide +kernel
theorem d_Folder_longLengthOf_2 : decode prog_3_method_27_code 2 = .ok (.iload_n 3, 1) := by decide +kernel
theorem d_Folder_longLengthOf_3 : decode prog_3_method_27_code 3 = .ok (.iload_n 2, 1) := by decide +kernel
theorem d_Folder_longLengthOf_4 : decode prog_3_method_27_code 4 = .ok (.bipush 13, 2) := by decide +kernel
theorem d_Folder_longLengthOf_6 : decode prog_3_method_27_code 6 = .ok (.imul, 1) := by decide +kernel
theorem d_Folder_longLengthOf_7 : decode prog_3_method_27_code 7 = .ok (.if_icmp .ge 20, 3) := by decide +kernel
theorem d_Folder_longLengthOf_10 : decode prog_3_method_27_code 10 = .ok (.aload_n 0, 1) := by decide +kernel
theorem d_Folder_longLengthOf_11 : decode prog_3_method_27_code 11 = .ok (.iload_n 1, 1) := by decide +kernel
theorem d_Folder_longLengthOf_12 : decode prog_3_method_27_code 12 = .ok (.iload_n 3, 1) := by decide +kernel
theorem d_Folder_longLengthOf_13 : decode prog_3_method_27_code 13 = .ok (.invokevirtual 98, 3) := by decide +kernel
theorem d_Folder_longLengthOf_16 : decode prog_3_method_27_code 16 = .ok (.ifCond .ne 5, 3) := by decide +kernel
theorem d_Folder_longLengthOf_19 : decode prog_3_method_27_code 19 = .ok (.iload_n 3, 1) := by decide +kernel
theorem d_Folder_longLengthOf_20 : decode prog_3_method_27_code 20 = .ok (.ireturn, 1) := by decide +kernel
theorem d_Folder_longLengthOf_21 : decode prog_3_method_27_code 21 = .ok (.iinc 3 1, 3) := by decide +kernel
theorem d_Folder_longLengthOf_24 : decode prog_3_method_27_code 24 = .ok (.goto (-22), 3) := by decide +kernel
theorem d_Folder_longLengthOf_27 : decode prog_3_method_27_code 27 = .ok (.iload_n 2, 1) := by decide +kernel
theorem d_Folder_longLengthOf_28 : decode prog_3_method_27_code 28 = .ok (.bipush 13, 2) := by decide +kernel
theorem d_Folder_longLengthOf_30 : decode prog_3_method_27_code 30 = .ok (.imul, 1) := by decide +kernel
theorem d_Folder_longLengthOf_31 : decode prog_3_method_27_code 31 = .ok (.ireturn, 1) := by decide +kernel
theorem d_Folder_isLongCalled_0 : decode prog_3_method_17_code 0 = .ok (.iload_n 3, 1) := by decide +kernel
theorem d_Folder_isLongCalled_1 : decode prog_3_method_17_code 1 = .ok (.ifCond .eq 16, 3) := by decide +kernel
theorem d_Folder_isLongCalled_4 : decode prog_3_method_17_code 4 = .ok (.aload_n 0, 1) := by decide +kernel
theorem d_Folder_isLongCalled_5 : decode prog_3_method_17_code 5 = .ok (.iload_n 1, 1) := by decide +kernel
theorem d_Folder_isLongCalled_6 : decode prog_3_method_17_code 6 = .ok (.iload_n 3, 1) := by decide +kernel
theorem d_Folder_isLongCalled_7 : decode prog_3_method_17_code 7 = .ok (.invokevirtual 95, 3) := by decide +kernel
theorem d_Folder_isLongCalled_10 : decode prog_3_method_17_code 10 = .ok (.aload_n 2, 1) := by decide +kernel
theorem d_Folder_isLongCalled_11 : decode prog_3_method_17_code 11 = .ok (.getfield 84, 3) := by decide +kernel
theorem d_Folder_isLongCalled_14 : decode prog_3_method_17_code 14 = .ok (.if_icmp .eq 5, 3) := by decide +kernel
theorem d_Folder_isLongCalled_17 : decode prog_3_method_17_code 17 = .ok (.iconst 0, 1) := by decide +kernel
theorem d_Folder_isLongCalled_18 : decode prog_3_method_17_code 18 = .ok (.ireturn, 1) := by decide +kernel
theorem d_Folder_isLongCalled_19 : decode prog_3_method_17_code 19 = .ok (.iconst 0, 1) := by decide +kernel
theorem d_Folder_isLongCalled_20 : decode prog_3_method_17_code 20 = .ok (.istore 4, 2) := by decide +kernel
theorem d_Folder_isLongCalled_22 : decode prog_3_method_17_code 22 = .ok (.iload 4, 2) := by decide +kernel
theorem d_Folder_isLongCalled_24 : decode prog_3_method_17_code 24 = .ok (.aload_n 2, 1) := by decide +kernel
theorem d_Folder_isLongCalled_25 : decode prog_3_method_17_code 25 = .ok (.getfield 84, 3) := by decide +kernel
theorem d_Folder_isLongCalled_28 : decode prog_3_method_17_code 28 = .ok (.if_icmp .ge 33, 3) := by decide +kernel
theorem d_Folder_isLongCalled_31 : decode prog_3_method_17_code 31 = .ok (.aload_n 0, 1) := by decide +kernel
theorem d_Folder_isLongCalled_32 : decode prog_3_method_17_code 32 = .ok (.iload_n 1, 1) := by decide +kernel
theorem d_Folder_isLongCalled_33 : decode prog_3_method_17_code 33 = .ok (.iload 4, 2) := by decide +kernel
theorem d_Folder_isLongCalled_35 : decode prog_3_method_17_code 35 = .ok (.invokevirtual 98, 3) := by decide +kernel
theorem d_Folder_isLongCalled_38 : decode prog_3_method_17_code 38 = .ok (.invokestatic 89, 3) := by decide +kernel
theorem d_Folder_isLongCalled_41 : decode prog_3_method_17_code 41 = .ok (.aload_n 2, 1) := by decide +kernel
theorem d_Folder_isLongCalled_42 : decode prog_3_method_17_code 42 = .ok (.iload 4, 2) := by decide +kernel
theorem d_Folder_isLongCalled_44 : decode prog_3_method_17_code 44 = .ok (.invokevirtual 92, 3) := by decide +kernel
theorem d_Folder_isLongCalled_47 : decode prog_3_method_17_code 47 = .ok (.invokestatic 89, 3) := by decide +kernel
theorem d_Folder_isLongCalled_50 : decode prog_3_method_17_code 50 = .ok (.if_icmp .eq 5, 3) := by decide +kernel
theorem d_Folder_isLongCalled_53 : decode prog_3_method_17_code 53 = .ok (.iconst 0, 1) := by decide +kernel
theorem d_Folder_isLongCalled_54 : decode prog_3_method_17_code 54 = .ok (.ireturn, 1) := by decide +kernel
theorem d_Folder_isLongCalled_55 : decode prog_3_method_17_code 55 = .ok (.iinc 4 1, 3) := by decide +kernel
theorem d_Folder_isLongCalled_58 : decode prog_3_method_17_code 58 = .ok (.goto (-36), 3) := by decide +kernel
theorem d_Folder_isLongCalled_61 : decode prog_3_method_17_code 61 = .ok (.iconst 1, 1) := by decide +kernel
theorem d_Folder_isLongCalled_62 : decode prog_3_method_17_code 62 = .ok (.ireturn, 1) := by decide +kernel
theorem d_Folder_isCalled_0 : decode prog_3_method_15_code 0 = .ok (.aload_n 0, 1) := by decide +kernel
theorem d_Folder_isCalled_1 : decode prog_3_method_15_code 1 = .ok (.iload_n 1, 1) := by decide +kernel
theorem d_Folder_isCalled_2 : decode prog_3_method_15_code 2 = .ok (.aload_n 2, 1) := by decide +kernel
theorem d_Folder_isCalled_3 : decode prog_3_method_15_code 3 = .ok (.invokevirtual 71, 3) := by decide +kernel
theorem d_Folder_isCalled_6 : decode prog_3_method_15_code 6 = .ok (.ifCond .ne 17, 3) := by decide +kernel
theorem d_Folder_isCalled_9 : decode prog_3_method_15_code 9 = .ok (.aload_n 0, 1) := by decide +kernel
theorem d_Folder_isCalled_10 : decode prog_3_method_15_code 10 = .ok (.iload_n 1, 1) := by decide +kernel
theorem d_Folder_isCalled_11 : decode prog_3_method_15_code 11 = .ok (.aload_n 2, 1) := by decide +kernel
theorem d_Folder_isCalled_12 : decode prog_3_method_15_code 12 = .ok (.aload_n 0, 1) := by decide +kernel
theorem d_Folder_isCalled_13 : decode prog_3_method_15_code 13 = .ok (.iload_n 1, 1) := by decide +kernel
theorem d_Folder_isCalled_14 : decode prog_3_method_15_code 14 = .ok (.invokevirtual 74, 3) := by decide +kernel
theorem d_Folder_isCalled_17 : decode prog_3_method_15_code 17 = .ok (.invokevirtual 77, 3) := by decide +kernel
theorem d_Folder_isCalled_20 : decode prog_3_method_15_code 20 = .ok (.ifCond .eq 7, 3) := by decide +kernel
theorem d_Folder_isCalled_23 : decode prog_3_method_15_code 23 = .ok (.iconst 1, 1) := by decide +kernel
theorem d_Folder_isCalled_24 : decode prog_3_method_15_code 24 = .ok (.goto 4, 3) := by decide +kernel
theorem d_Folder_isCalled_27 : decode prog_3_method_15_code 27 = .ok (.iconst 0, 1) := by decide +kernel
theorem d_Folder_isCalled_28 : decode prog_3_method_15_code 28 = .ok (.ireturn, 1) := by decide +kernel
theorem d_Folder_find_0 : decode prog_3_method_14_code 0 = .ok (.iconst 0, 1) := by decide +kernel
theorem d_Folder_find_1 : decode prog_3_method_14_code 1 = .ok (.istore_n 3, 1) := by decide +kernel
theorem d_Folder_find_2 : decode prog_3_method_14_code 2 = .ok (.iload_n 3, 1) := by decide +kernel
theorem d_Folder_find_3 : decode prog_3_method_14_code 3 = .ok (.aload_n 0, 1) := by decide +kernel
theorem d_Folder_find_4 : decode prog_3_method_14_code 4 = .ok (.getfield 23, 3) := by decide +kernel
theorem d_Folder_find_7 : decode prog_3_method_14_code 7 = .ok (.if_icmp .ge 53, 3) := by decide +kernel
theorem d_Folder_find_10 : decode prog_3_method_14_code 10 = .ok (.iload_n 2, 1) := by decide +kernel
theorem d_Folder_find_11 : decode prog_3_method_14_code 11 = .ok (.ifCond .eq 12, 3) := by decide +kernel
theorem d_Folder_find_14 : decode prog_3_method_14_code 14 = .ok (.aload_n 0, 1) := by decide +kernel
theorem d_Folder_find_15 : decode prog_3_method_14_code 15 = .ok (.iload_n 3, 1) := by decide +kernel
theorem d_Folder_find_16 : decode prog_3_method_14_code 16 = .ok (.invokevirtual 64, 3) := by decide +kernel
theorem d_Folder_find_19 : decode prog_3_method_14_code 19 = .ok (.iload_n 2, 1) := by decide +kernel
theorem d_Folder_find_20 : decode prog_3_method_14_code 20 = .ok (.if_icmp .ne 7, 3) := by decide +kernel
theorem d_Folder_find_23 : decode prog_3_method_14_code 23 = .ok (.iconst 1, 1) := by decide +kernel
theorem d_Folder_find_24 : decode prog_3_method_14_code 24 = .ok (.goto 4, 3) := by decide +kernel
theorem d_Folder_find_27 : decode prog_3_method_14_code 27 = .ok (.iconst 0, 1) := by decide +kernel
theorem d_Folder_find_28 : decode prog_3_method_14_code 28 = .ok (.istore 4, 2) := by decide +kernel
theorem d_Folder_find_30 : decode prog_3_method_14_code 30 = .ok (.iload 4, 2) := by decide +kernel
theorem d_Folder_find_32 : decode prog_3_method_14_code 32 = .ok (.ifCond .eq 22, 3) := by decide +kernel
theorem d_Folder_find_35 : decode prog_3_method_14_code 35 = .ok (.aload_n 0, 1) := by decide +kernel
theorem d_Folder_find_36 : decode prog_3_method_14_code 36 = .ok (.iload_n 3, 1) := by decide +kernel
theorem d_Folder_find_37 : decode prog_3_method_14_code 37 = .ok (.invokevirtual 61, 3) := by decide +kernel
theorem d_Folder_find_40 : decode prog_3_method_14_code 40 = .ok (.ifCond .eq 14, 3) := by decide +kernel
theorem d_Folder_find_43 : decode prog_3_method_14_code 43 = .ok (.aload_n 0, 1) := by decide +kernel
theorem d_Folder_find_44 : decode prog_3_method_14_code 44 = .ok (.iload_n 3, 1) := by decide +kernel
theorem d_Folder_find_45 : decode prog_3_method_14_code 45 = .ok (.aload_n 1, 1) := by decide +kernel
theorem d_Folder_find_46 : decode prog_3_method_14_code 46 = .ok (.invokevirtual 67, 3) := by decide +kernel
theorem d_Folder_find_49 : decode prog_3_method_14_code 49 = .ok (.ifCond .eq 5, 3) := by decide +kernel
theorem d_Folder_find_52 : decode prog_3_method_14_code 52 = .ok (.iload_n 3, 1) := by decide +kernel
theorem d_Folder_find_53 : decode prog_3_method_14_code 53 = .ok (.ireturn, 1) := by decide +kernel
theorem d_Folder_find_54 : decode prog_3_method_14_code 54 = .ok (.iinc 3 1, 3) := by decide +kernel
theorem d_Folder_find_57 : decode prog_3_method_14_code 57 = .ok (.goto (-55), 3) := by decide +kernel
theorem d_Folder_find_60 : decode prog_3_method_14_code 60 = .ok (.iconst (-1), 1) := by decide +kernel
theorem d_Folder_find_61 : decode prog_3_method_14_code 61 = .ok (.ireturn, 1) := by decide +kernel
theorem d_V_isShortChar_0 : decode prog_1_method_31_code 0 = .ok (.iload_n 0, 1) := by decide +kernel
theorem d_V_isShortChar_1 : decode prog_1_method_31_code 1 = .ok (.bipush 65, 2) := by decide +kernel
theorem d_V_isShortChar_3 : decode prog_1_method_31_code 3 = .ok (.if_icmp .lt 9, 3) := by decide +kernel
theorem d_V_isShortChar_6 : decode prog_1_method_31_code 6 = .ok (.iload_n 0, 1) := by decide +kernel
theorem d_V_isShortChar_7 : decode prog_1_method_31_code 7 = .ok (.bipush 90, 2) := by decide +kernel
theorem d_V_isShortChar_9 : decode prog_1_method_31_code 9 = .ok (.if_icmp .le 15, 3) := by decide +kernel
theorem d_V_isShortChar_12 : decode prog_1_method_31_code 12 = .ok (.iload_n 0, 1) := by decide +kernel
theorem d_V_isShortChar_13 : decode prog_1_method_31_code 13 = .ok (.bipush 48, 2) := by decide +kernel
theorem d_V_isShortChar_15 : decode prog_1_method_31_code 15 = .ok (.if_icmp .lt 13, 3) := by decide +kernel
theorem d_V_isShortChar_18 : decode prog_1_method_31_code 18 = .ok (.iload_n 0, 1) := by decide +kernel
theorem d_V_isShortChar_19 : decode prog_1_method_31_code 19 = .ok (.bipush 57, 2) := by decide +kernel
theorem d_V_isShortChar_21 : decode prog_1_method_31_code 21 = .ok (.if_icmp .gt 7, 3) := by decide +kernel
theorem d_V_isShortChar_24 : decode prog_1_method_31_code 24 = .ok (.iconst 1, 1) := by decide +kernel
theorem d_V_isShortChar_25 : decode prog_1_method_31_code 25 = .ok (.goto 4, 3) := by decide +kernel
theorem d_V_isShortChar_28 : decode prog_1_method_31_code 28 = .ok (.iconst 0, 1) := by decide +kernel
theorem d_V_isShortChar_29 : decode prog_1_method_31_code 29 = .ok (.ireturn, 1) := by decide +kernel
theorem d_Name_isShort_0 : decode prog_4_method_5_code 0 = .ok (.iconst 0, 1) := by decide +kernel
theorem d_Name_isShort_1 : decode prog_4_method_5_code 1 = .ok (.istore_n 1, 1) := by decide +kernel
theorem d_Name_isShort_2 : decode prog_4_method_5_code 2 = .ok (.iload_n 1, 1) := by decide +kernel
theorem d_Name_isShort_3 : decode prog_4_method_5_code 3 = .ok (.aload_n 0, 1) := by decide +kernel
theorem d_Name_isShort_4 : decode prog_4_method_5_code 4 = .ok (.getfield 25, 3) := by decide +kernel
theorem d_Name_isShort_7 : decode prog_4_method_5_code 7 = .ok (.if_icmp .ge 22, 3) := by decide +kernel
theorem d_Name_isShort_10 : decode prog_4_method_5_code 10 = .ok (.aload_n 0, 1) := by decide +kernel
theorem d_Name_isShort_11 : decode prog_4_method_5_code 11 = .ok (.iload_n 1, 1) := by decide +kernel
theorem d_Name_isShort_12 : decode prog_4_method_5_code 12 = .ok (.invokevirtual 31, 3) := by decide +kernel
theorem d_Name_isShort_15 : decode prog_4_method_5_code 15 = .ok (.invokestatic 35, 3) := by decide +kernel
theorem d_Name_isShort_18 : decode prog_4_method_5_code 18 = .ok (.ifCond .ne 5, 3) := by decide +kernel
theorem d_Name_isShort_21 : decode prog_4_method_5_code 21 = .ok (.iconst 0, 1) := by decide +kernel
theorem d_Name_isShort_22 : decode prog_4_method_5_code 22 = .ok (.ireturn, 1) := by decide +kernel
theorem d_Name_isShort_23 : decode prog_4_method_5_code 23 = .ok (.iinc 1 1, 3) := by decide +kernel
theorem d_Name_isShort_26 : decode prog_4_method_5_code 26 = .ok (.goto (-24), 3) := by decide +kernel
theorem d_Name_isShort_29 : decode prog_4_method_5_code 29 = .ok (.aload_n 0, 1) := by decide +kernel
theorem d_Name_isShort_30 : decode prog_4_method_5_code 30 = .ok (.getfield 25, 3) := by decide +kernel
theorem d_Name_isShort_33 : decode prog_4_method_5_code 33 = .ok (.bipush 6, 2) := by decide +kernel
theorem d_Name_isShort_35 : decode prog_4_method_5_code 35 = .ok (.if_icmp .gt 7, 3) := by decide +kernel
theorem d_Name_isShort_38 : decode prog_4_method_5_code 38 = .ok (.iconst 1, 1) := by decide +kernel
theorem d_Name_isShort_39 : decode prog_4_method_5_code 39 = .ok (.goto 4, 3) := by decide +kernel
theorem d_Name_isShort_42 : decode prog_4_method_5_code 42 = .ok (.iconst 0, 1) := by decide +kernel
theorem d_Name_isShort_43 : decode prog_4_method_5_code 43 = .ok (.ireturn, 1) := by decide +kernel
theorem d_Name_copyCapitals_0 : decode prog_4_method_7_code 0 = .ok (.iconst 0, 1) := by decide +kernel
theorem d_Name_copyCapitals_1 : decode prog_4_method_7_code 1 = .ok (.istore_n 2, 1) := by decide +kernel
theorem d_Name_copyCapitals_2 : decode prog_4_method_7_code 2 = .ok (.iconst 0, 1) := by decide +kernel
theorem d_Name_copyCapitals_3 : decode prog_4_method_7_code 3 = .ok (.istore_n 3, 1) := by decide +kernel
theorem d_Name_copyCapitals_4 : decode prog_4_method_7_code 4 = .ok (.iload_n 3, 1) := by decide +kernel
theorem d_Name_copyCapitals_5 : decode prog_4_method_7_code 5 = .ok (.aload_n 0, 1) := by decide +kernel
theorem d_Name_copyCapitals_6 : decode prog_4_method_7_code 6 = .ok (.getfield 25, 3) := by decide +kernel
theorem d_Name_copyCapitals_9 : decode prog_4_method_7_code 9 = .ok (.if_icmp .ge 49, 3) := by decide +kernel
theorem d_Name_copyCapitals_12 : decode prog_4_method_7_code 12 = .ok (.iload_n 2, 1) := by decide +kernel
theorem d_Name_copyCapitals_13 : decode prog_4_method_7_code 13 = .ok (.iload_n 1, 1) := by decide +kernel
theorem d_Name_copyCapitals_14 : decode prog_4_method_7_code 14 = .ok (.if_icmp .ge 44, 3) := by decide +kernel
theorem d_Name_copyCapitals_17 : decode prog_4_method_7_code 17 = .ok (.iload_n 2, 1) := by decide +kernel
theorem d_Name_copyCapitals_18 : decode prog_4_method_7_code 18 = .ok (.bipush 6, 2) := by decide +kernel
theorem d_Name_copyCapitals_20 : decode prog_4_method_7_code 20 = .ok (.if_icmp .ge 38, 3) := by decide +kernel
theorem d_Name_copyCapitals_23 : decode prog_4_method_7_code 23 = .ok (.aload_n 0, 1) := by decide +kernel
theorem d_Name_copyCapitals_24 : decode prog_4_method_7_code 24 = .ok (.iload_n 3, 1) := by decide +kernel
theorem d_Name_copyCapitals_25 : decode prog_4_method_7_code 25 = .ok (.invokevirtual 31, 3) := by decide +kernel
theorem d_Name_copyCapitals_28 : decode prog_4_method_7_code 28 = .ok (.invokestatic 55, 3) := by decide +kernel
theorem d_Name_copyCapitals_31 : decode prog_4_method_7_code 31 = .ok (.istore 4, 2) := by decide +kernel
theorem d_Name_copyCapitals_33 : decode prog_4_method_7_code 33 = .ok (.iload 4, 2) := by decide +kernel
theorem d_Name_copyCapitals_35 : decode prog_4_method_7_code 35 = .ok (.invokestatic 35, 3) := by decide +kernel
theorem d_Name_copyCapitals_38 : decode prog_4_method_7_code 38 = .ok (.ifCond .eq 14, 3) := by decide +kernel
theorem d_Name_copyCapitals_41 : decode prog_4_method_7_code 41 = .ok (.aload_n 0, 1) := by decide +kernel
theorem d_Name_copyCapitals_42 : decode prog_4_method_7_code 42 = .ok (.getfield 15, 3) := by decide +kernel
theorem d_Name_copyCapitals_45 : decode prog_4_method_7_code 45 = .ok (.iload_n 2, 1) := by decide +kernel
theorem d_Name_copyCapitals_46 : decode prog_4_method_7_code 46 = .ok (.iload 4, 2) := by decide +kernel
theorem d_Name_copyCapitals_48 : decode prog_4_method_7_code 48 = .ok (.iastore, 1) := by decide +kernel
theorem d_Name_copyCapitals_49 : decode prog_4_method_7_code 49 = .ok (.iinc 2 1, 3) := by decide +kernel
theorem d_Name_copyCapitals_52 : decode prog_4_method_7_code 52 = .ok (.iinc 3 1, 3) := by decide +kernel
theorem d_Name_copyCapitals_55 : decode prog_4_method_7_code 55 = .ok (.goto (-51), 3) := by decide +kernel
theorem d_Name_copyCapitals_58 : decode prog_4_method_7_code 58 = .ok (.iload_n 2, 1) := by decide +kernel
theorem d_Name_copyCapitals_59 : decode prog_4_method_7_code 59 = .ok (.ireturn, 1) := by decide +kernel
theorem d_Folder_isShort_0 : decode prog_3_method_19_code 0 = .ok (.aload_n 0, 1) := by decide +kernel
theorem d_Folder_isShort_1 : decode prog_3_method_19_code 1 = .ok (.iload_n 1, 1) := by decide +kernel
theorem d_Folder_isShort_2 : decode prog_3_method_19_code 2 = .ok (.invokevirtual 81, 3) := by decide +kernel
theorem d_Folder_isShort_5 : decode prog_3_method_19_code 5 = .ok (.iload_n 3, 1) := by decide +kernel
theorem d_Folder_isShort_6 : decode prog_3_method_19_code 6 = .ok (.if_icmp .eq 5, 3) := by decide +kernel
theorem d_Folder_isShort_9 : decode prog_3_method_19_code 9 = .ok (.iconst 0, 1) := by decide +kernel
theorem d_Folder_isShort_10 : decode prog_3_method_19_code 10 = .ok (.ireturn, 1) := by decide +kernel
theorem d_Folder_isShort_11 : decode prog_3_method_19_code 11 = .ok (.iconst 0, 1) := by decide +kernel
theorem d_Folder_isShort_12 : decode prog_3_method_19_code 12 = .ok (.istore 4, 2) := by decide +kernel
theorem d_Folder_isShort_14 : decode prog_3_method_19_code 14 = .ok (.iload 4, 2) := by decide +kernel
theorem d_Folder_isShort_16 : decode prog_3_method_19_code 16 = .ok (.iload_n 3, 1) := by decide +kernel
theorem d_Folder_isShort_17 : decode prog_3_method_19_code 17 = .ok (.if_icmp .ge 35, 3) := by decide +kernel
theorem d_Folder_isShort_20 : decode prog_3_method_19_code 20 = .ok (.iload 4, 2) := by decide +kernel
theorem d_Folder_isShort_22 : decode prog_3_method_19_code 22 = .ok (.aload_n 2, 1) := by decide +kernel
theorem d_Folder_isShort_23 : decode prog_3_method_19_code 23 = .ok (.arraylength, 1) := by decide +kernel
theorem d_Folder_isShort_24 : decode prog_3_method_19_code 24 = .ok (.if_icmp .ge 28, 3) := by decide +kernel
theorem d_Folder_isShort_27 : decode prog_3_method_19_code 27 = .ok (.aload_n 0, 1) := by decide +kernel
theorem d_Folder_isShort_28 : decode prog_3_method_19_code 28 = .ok (.iload_n 1, 1) := by decide +kernel
theorem d_Folder_isShort_29 : decode prog_3_method_19_code 29 = .ok (.iload 4, 2) := by decide +kernel
theorem d_Folder_isShort_31 : decode prog_3_method_19_code 31 = .ok (.invokevirtual 51, 3) := by decide +kernel
theorem d_Folder_isShort_34 : decode prog_3_method_19_code 34 = .ok (.invokestatic 89, 3) := by decide +kernel
theorem d_Folder_isShort_37 : decode prog_3_method_19_code 37 = .ok (.aload_n 2, 1) := by decide +kernel
theorem d_Folder_isShort_38 : decode prog_3_method_19_code 38 = .ok (.iload 4, 2) := by decide +kernel
theorem d_Folder_isShort_40 : decode prog_3_method_19_code 40 = .ok (.iaload, 1) := by decide +kernel
theorem d_Folder_isShort_41 : decode prog_3_method_19_code 41 = .ok (.if_icmp .eq 5, 3) := by decide +kernel
theorem d_Folder_isShort_44 : decode prog_3_method_19_code 44 = .ok (.iconst 0, 1) := by decide +kernel
theorem d_Folder_isShort_45 : decode prog_3_method_19_code 45 = .ok (.ireturn, 1) := by decide +kernel
theorem d_Folder_isShort_46 : decode prog_3_method_19_code 46 = .ok (.iinc 4 1, 3) := by decide +kernel
theorem d_Folder_isShort_49 : decode prog_3_method_19_code 49 = .ok (.goto (-35), 3) := by decide +kernel
theorem d_Folder_isShort_52 : decode prog_3_method_19_code 52 = .ok (.iconst 1, 1) := by decide +kernel
theorem d_Folder_isShort_53 : decode prog_3_method_19_code 53 = .ok (.ireturn, 1) := by decide +kernel
theorem d_Folder_hasShort_0 : decode prog_3_method_18_code 0 = .ok (.iconst 0, 1) := by decide +kernel
theorem d_Folder_hasShort_1 : decode prog_3_method_18_code 1 = .ok (.istore_n 3, 1) := by decide +kernel
theorem d_Folder_hasShort_2 : decode prog_3_method_18_code 2 = .ok (.iload_n 3, 1) := by decide +kernel
theorem d_Folder_hasShort_3 : decode prog_3_method_18_code 3 = .ok (.aload_n 0, 1) := by decide +kernel
theorem d_Folder_hasShort_4 : decode prog_3_method_18_code 4 = .ok (.getfield 23, 3) := by decide +kernel
theorem d_Folder_hasShort_7 : decode prog_3_method_18_code 7 = .ok (.if_icmp .ge 29, 3) := by decide +kernel
theorem d_Folder_hasShort_10 : decode prog_3_method_18_code 10 = .ok (.aload_n 0, 1) := by decide +kernel
theorem d_Folder_hasShort_11 : decode prog_3_method_18_code 11 = .ok (.iload_n 3, 1) := by decide +kernel
theorem d_Folder_hasShort_12 : decode prog_3_method_18_code 12 = .ok (.invokevirtual 61, 3) := by decide +kernel
theorem d_Folder_hasShort_15 : decode prog_3_method_18_code 15 = .ok (.ifCond .eq 15, 3) := by decide +kernel
theorem d_Folder_hasShort_18 : decode prog_3_method_18_code 18 = .ok (.aload_n 0, 1) := by decide +kernel
theorem d_Folder_hasShort_19 : decode prog_3_method_18_code 19 = .ok (.iload_n 3, 1) := by decide +kernel
theorem d_Folder_hasShort_20 : decode prog_3_method_18_code 20 = .ok (.aload_n 1, 1) := by decide +kernel
theorem d_Folder_hasShort_21 : decode prog_3_method_18_code 21 = .ok (.iload_n 2, 1) := by decide +kernel
theorem d_Folder_hasShort_22 : decode prog_3_method_18_code 22 = .ok (.invokevirtual 101, 3) := by decide +kernel
theorem d_Folder_hasShort_25 : decode prog_3_method_18_code 25 = .ok (.ifCond .eq 5, 3) := by decide +kernel
theorem d_Folder_hasShort_28 : decode prog_3_method_18_code 28 = .ok (.iconst 1, 1) := by decide +kernel
theorem d_Folder_hasShort_29 : decode prog_3_method_18_code 29 = .ok (.ireturn, 1) := by decide +kernel
theorem d_Folder_hasShort_30 : decode prog_3_method_18_code 30 = .ok (.iinc 3 1, 3) := by decide +kernel
theorem d_Folder_hasShort_33 : decode prog_3_method_18_code 33 = .ok (.goto (-31), 3) := by decide +kernel
theorem d_Folder_hasShort_36 : decode prog_3_method_18_code 36 = .ok (.iconst 0, 1) := by decide +kernel
theorem d_Folder_hasShort_37 : decode prog_3_method_18_code 37 = .ok (.ireturn, 1) := by decide +kernel
theorem d_Name_chooseShort_0 : decode prog_4_method_6_code 0 = .ok (.iconst 0, 1) := by decide +kernel
theorem d_Name_chooseShort_1 : decode prog_4_method_6_code 1 = .ok (.istore_n 2, 1) := by decide +kernel
theorem d_Name_chooseShort_2 : decode prog_4_method_6_code 2 = .ok (.iload_n 2, 1) := by decide +kernel
theorem d_Name_chooseShort_3 : decode prog_4_method_6_code 3 = .ok (.bipush 6, 2) := by decide +kernel
theorem d_Name_chooseShort_5 : decode prog_4_method_6_code 5 = .ok (.if_icmp .ge 17, 3) := by decide +kernel
theorem d_Name_chooseShort_8 : decode prog_4_method_6_code 8 = .ok (.aload_n 0, 1) := by decide +kernel
theorem d_Name_chooseShort_9 : decode prog_4_method_6_code 9 = .ok (.getfield 15, 3) := by decide +kernel
theorem d_Name_chooseShort_12 : decode prog_4_method_6_code 12 = .ok (.iload_n 2, 1) := by decide +kernel
theorem d_Name_chooseShort_13 : decode prog_4_method_6_code 13 = .ok (.bipush 32, 2) := by decide +kernel
theorem d_Name_chooseShort_15 : decode prog_4_method_6_code 15 = .ok (.iastore, 1) := by decide +kernel
theorem d_Name_chooseShort_16 : decode prog_4_method_6_code 16 = .ok (.iinc 2 1, 3) := by decide +kernel
theorem d_Name_chooseShort_19 : decode prog_4_method_6_code 19 = .ok (.goto (-17), 3) := by decide +kernel
theorem d_Name_chooseShort_22 : decode prog_4_method_6_code 22 = .ok (.aload_n 0, 1) := by decide +kernel
theorem d_Name_chooseShort_23 : decode prog_4_method_6_code 23 = .ok (.invokevirtual 39, 3) := by decide +kernel
theorem d_Name_chooseShort_26 : decode prog_4_method_6_code 26 = .ok (.ifCond .eq 17, 3) := by decide +kernel
theorem d_Name_chooseShort_29 : decode prog_4_method_6_code 29 = .ok (.aload_n 0, 1) := by decide +kernel
