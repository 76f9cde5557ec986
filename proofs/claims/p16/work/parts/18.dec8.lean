theorem d_M_look_44 : decode prog_9_method_63_code 44 = .ok (.istore_n 3, 1) := by decide +kernel
theorem d_M_look_45 : decode prog_9_method_63_code 45 = .ok (.iload_n 3, 1) := by decide +kernel
theorem d_M_look_46 : decode prog_9_method_63_code 46 = .ok (.bipush 64, 2) := by decide +kernel
theorem d_M_look_48 : decode prog_9_method_63_code 48 = .ok (.if_icmp .ge 25, 3) := by decide +kernel
theorem d_M_look_51 : decode prog_9_method_63_code 51 = .ok (.iload_n 2, 1) := by decide +kernel
theorem d_M_look_52 : decode prog_9_method_63_code 52 = .ok (.aload_n 0, 1) := by decide +kernel
theorem d_M_look_53 : decode prog_9_method_63_code 53 = .ok (.iload_n 3, 1) := by decide +kernel
theorem d_M_look_54 : decode prog_9_method_63_code 54 = .ok (.invokevirtual 80, 3) := by decide +kernel
theorem d_M_look_57 : decode prog_9_method_63_code 57 = .ok (.ifCond .ne 7, 3) := by decide +kernel
theorem d_M_look_60 : decode prog_9_method_63_code 60 = .ok (.iconst 1, 1) := by decide +kernel
theorem d_M_look_61 : decode prog_9_method_63_code 61 = .ok (.goto 4, 3) := by decide +kernel
theorem d_M_look_64 : decode prog_9_method_63_code 64 = .ok (.iconst 0, 1) := by decide +kernel
theorem d_M_look_65 : decode prog_9_method_63_code 65 = .ok (.iadd, 1) := by decide +kernel
theorem d_M_look_66 : decode prog_9_method_63_code 66 = .ok (.istore_n 2, 1) := by decide +kernel
theorem d_M_look_67 : decode prog_9_method_63_code 67 = .ok (.iinc 3 1, 3) := by decide +kernel
theorem d_M_look_70 : decode prog_9_method_63_code 70 = .ok (.goto (-25), 3) := by decide +kernel
theorem d_M_look_73 : decode prog_9_method_63_code 73 = .ok (.iload_n 1, 1) := by decide +kernel
theorem d_M_look_74 : decode prog_9_method_63_code 74 = .ok (.iconst 3, 1) := by decide +kernel
theorem d_M_look_75 : decode prog_9_method_63_code 75 = .ok (.if_icmp .ge 45, 3) := by decide +kernel
theorem d_M_look_78 : decode prog_9_method_63_code 78 = .ok (.iload_n 1, 1) := by decide +kernel
theorem d_M_look_79 : decode prog_9_method_63_code 79 = .ok (.ifCond .ne 18, 3) := by decide +kernel
theorem d_M_look_82 : decode prog_9_method_63_code 82 = .ok (.aload_n 0, 1) := by decide +kernel
theorem d_M_look_83 : decode prog_9_method_63_code 83 = .ok (.getfield 13, 3) := by decide +kernel
theorem d_M_look_86 : decode prog_9_method_63_code 86 = .ok (.ifCond .eq 7, 3) := by decide +kernel
theorem d_M_look_89 : decode prog_9_method_63_code 89 = .ok (.iconst 1, 1) := by decide +kernel
theorem d_M_look_90 : decode prog_9_method_63_code 90 = .ok (.goto 29, 3) := by decide +kernel
theorem d_M_look_93 : decode prog_9_method_63_code 93 = .ok (.iconst 0, 1) := by decide +kernel
theorem d_M_look_94 : decode prog_9_method_63_code 94 = .ok (.goto 25, 3) := by decide +kernel
theorem d_M_look_97 : decode prog_9_method_63_code 97 = .ok (.iload_n 1, 1) := by decide +kernel
theorem d_M_look_98 : decode prog_9_method_63_code 98 = .ok (.iconst 1, 1) := by decide +kernel
theorem d_M_look_99 : decode prog_9_method_63_code 99 = .ok (.if_icmp .ne 10, 3) := by decide +kernel
theorem d_M_look_102 : decode prog_9_method_63_code 102 = .ok (.aload_n 0, 1) := by decide +kernel
theorem d_M_look_103 : decode prog_9_method_63_code 103 = .ok (.getfield 73, 3) := by decide +kernel
theorem d_M_look_106 : decode prog_9_method_63_code 106 = .ok (.goto 13, 3) := by decide +kernel
theorem d_M_look_109 : decode prog_9_method_63_code 109 = .ok (.iload_n 1, 1) := by decide +kernel
theorem d_M_look_110 : decode prog_9_method_63_code 110 = .ok (.iconst 2, 1) := by decide +kernel
theorem d_M_look_111 : decode prog_9_method_63_code 111 = .ok (.if_icmp .ne 7, 3) := by decide +kernel
theorem d_M_look_114 : decode prog_9_method_63_code 114 = .ok (.iload_n 2, 1) := by decide +kernel
theorem d_M_look_115 : decode prog_9_method_63_code 115 = .ok (.goto 4, 3) := by decide +kernel
theorem d_M_look_118 : decode prog_9_method_63_code 118 = .ok (.iconst (-1), 1) := by decide +kernel
theorem d_M_look_119 : decode prog_9_method_63_code 119 = .ok (.ireturn, 1) := by decide +kernel
theorem d_M_look_120 : decode prog_9_method_63_code 120 = .ok (.iload_n 1, 1) := by decide +kernel
theorem d_M_look_121 : decode prog_9_method_63_code 121 = .ok (.iconst 3, 1) := by decide +kernel
theorem d_M_look_122 : decode prog_9_method_63_code 122 = .ok (.if_icmp .ne 10, 3) := by decide +kernel
theorem d_M_look_125 : decode prog_9_method_63_code 125 = .ok (.aload_n 0, 1) := by decide +kernel
theorem d_M_look_126 : decode prog_9_method_63_code 126 = .ok (.getfield 24, 3) := by decide +kernel
theorem d_M_look_129 : decode prog_9_method_63_code 129 = .ok (.goto 16, 3) := by decide +kernel
theorem d_M_look_132 : decode prog_9_method_63_code 132 = .ok (.iload_n 1, 1) := by decide +kernel
theorem d_M_look_133 : decode prog_9_method_63_code 133 = .ok (.iconst 4, 1) := by decide +kernel
theorem d_M_look_134 : decode prog_9_method_63_code 134 = .ok (.if_icmp .ne 10, 3) := by decide +kernel
theorem d_M_look_137 : decode prog_9_method_63_code 137 = .ok (.aload_n 0, 1) := by decide +kernel
theorem d_M_look_138 : decode prog_9_method_63_code 138 = .ok (.getfield 67, 3) := by decide +kernel
theorem d_M_look_141 : decode prog_9_method_63_code 141 = .ok (.goto 4, 3) := by decide +kernel
theorem d_M_look_144 : decode prog_9_method_63_code 144 = .ok (.iconst (-1), 1) := by decide +kernel
theorem d_M_look_145 : decode prog_9_method_63_code 145 = .ok (.ireturn, 1) := by decide +kernel
theorem d_V_init_0 : decode prog_1_method_1_code 0 = .ok (.aload_n 0, 1) := by decide +kernel
theorem d_V_init_1 : decode prog_1_method_1_code 1 = .ok (.invokespecial 3, 3) := by decide +kernel
theorem d_V_init_4 : decode prog_1_method_1_code 4 = .ok (.aload_n 0, 1) := by decide +kernel
theorem d_V_init_5 : decode prog_1_method_1_code 5 = .ok (.new 9, 3) := by decide +kernel
theorem d_V_init_8 : decode prog_1_method_1_code 8 = .ok (.dup, 1) := by decide +kernel
theorem d_V_init_9 : decode prog_1_method_1_code 9 = .ok (.invokespecial 11, 3) := by decide +kernel
theorem d_V_init_12 : decode prog_1_method_1_code 12 = .ok (.putfield 12, 3) := by decide +kernel
theorem d_V_init_15 : decode prog_1_method_1_code 15 = .ok (.aload_n 0, 1) := by decide +kernel
theorem d_V_init_16 : decode prog_1_method_1_code 16 = .ok (.new 16, 3) := by decide +kernel
theorem d_V_init_19 : decode prog_1_method_1_code 19 = .ok (.dup, 1) := by decide +kernel
theorem d_V_init_20 : decode prog_1_method_1_code 20 = .ok (.aload_n 0, 1) := by decide +kernel
theorem d_V_init_21 : decode prog_1_method_1_code 21 = .ok (.getfield 12, 3) := by decide +kernel
theorem d_V_init_24 : decode prog_1_method_1_code 24 = .ok (.invokespecial 18, 3) := by decide +kernel
theorem d_V_init_27 : decode prog_1_method_1_code 27 = .ok (.putfield 21, 3) := by decide +kernel
theorem d_V_init_30 : decode prog_1_method_1_code 30 = .ok (.aload_n 0, 1) := by decide +kernel
theorem d_V_init_31 : decode prog_1_method_1_code 31 = .ok (.new 25, 3) := by decide +kernel
theorem d_V_init_34 : decode prog_1_method_1_code 34 = .ok (.dup, 1) := by decide +kernel
theorem d_V_init_35 : decode prog_1_method_1_code 35 = .ok (.aload_n 0, 1) := by decide +kernel
theorem d_V_init_36 : decode prog_1_method_1_code 36 = .ok (.getfield 21, 3) := by decide +kernel
theorem d_V_init_39 : decode prog_1_method_1_code 39 = .ok (.invokespecial 27, 3) := by decide +kernel
theorem d_V_init_42 : decode prog_1_method_1_code 42 = .ok (.putfield 30, 3) := by decide +kernel
theorem d_V_init_45 : decode prog_1_method_1_code 45 = .ok (.aload_n 0, 1) := by decide +kernel
theorem d_V_init_46 : decode prog_1_method_1_code 46 = .ok (.new 34, 3) := by decide +kernel
theorem d_V_init_49 : decode prog_1_method_1_code 49 = .ok (.dup, 1) := by decide +kernel
theorem d_V_init_50 : decode prog_1_method_1_code 50 = .ok (.aload_n 0, 1) := by decide +kernel
theorem d_V_init_51 : decode prog_1_method_1_code 51 = .ok (.getfield 21, 3) := by decide +kernel
theorem d_V_init_54 : decode prog_1_method_1_code 54 = .ok (.aload_n 0, 1) := by decide +kernel
theorem d_V_init_55 : decode prog_1_method_1_code 55 = .ok (.getfield 30, 3) := by decide +kernel
theorem d_V_init_58 : decode prog_1_method_1_code 58 = .ok (.invokespecial 36, 3) := by decide +kernel
theorem d_V_init_61 : decode prog_1_method_1_code 61 = .ok (.putfield 39, 3) := by decide +kernel
theorem d_V_init_64 : decode prog_1_method_1_code 64 = .ok (.aload_n 0, 1) := by decide +kernel
theorem d_V_init_65 : decode prog_1_method_1_code 65 = .ok (.new 34, 3) := by decide +kernel
theorem d_V_init_68 : decode prog_1_method_1_code 68 = .ok (.dup, 1) := by decide +kernel
theorem d_V_init_69 : decode prog_1_method_1_code 69 = .ok (.aload_n 0, 1) := by decide +kernel
theorem d_V_init_70 : decode prog_1_method_1_code 70 = .ok (.getfield 21, 3) := by decide +kernel
theorem d_V_init_73 : decode prog_1_method_1_code 73 = .ok (.aload_n 0, 1) := by decide +kernel
theorem d_V_init_74 : decode prog_1_method_1_code 74 = .ok (.getfield 30, 3) := by decide +kernel
theorem d_V_init_77 : decode prog_1_method_1_code 77 = .ok (.invokespecial 36, 3) := by decide +kernel
theorem d_V_init_80 : decode prog_1_method_1_code 80 = .ok (.putfield 43, 3) := by decide +kernel
theorem d_V_init_83 : decode prog_1_method_1_code 83 = .ok (.aload_n 0, 1) := by decide +kernel
theorem d_V_init_84 : decode prog_1_method_1_code 84 = .ok (.new 46, 3) := by decide +kernel
theorem d_V_init_87 : decode prog_1_method_1_code 87 = .ok (.dup, 1) := by decide +kernel
theorem d_V_init_88 : decode prog_1_method_1_code 88 = .ok (.aload_n 0, 1) := by decide +kernel
theorem d_V_init_89 : decode prog_1_method_1_code 89 = .ok (.getfield 21, 3) := by decide +kernel
theorem d_V_init_92 : decode prog_1_method_1_code 92 = .ok (.aload_n 0, 1) := by decide +kernel
theorem d_V_init_93 : decode prog_1_method_1_code 93 = .ok (.getfield 30, 3) := by decide +kernel
theorem d_V_init_96 : decode prog_1_method_1_code 96 = .ok (.aload_n 0, 1) := by decide +kernel
theorem d_V_init_97 : decode prog_1_method_1_code 97 = .ok (.getfield 39, 3) := by decide +kernel
theorem d_V_init_100 : decode prog_1_method_1_code 100 = .ok (.invokespecial 48, 3) := by decide +kernel
theorem d_V_init_103 : decode prog_1_method_1_code 103 = .ok (.putfield 51, 3) := by decide +kernel
theorem d_V_init_106 : decode prog_1_method_1_code 106 = .ok (.aload_n 0, 1) := by decide +kernel
theorem d_V_init_107 : decode prog_1_method_1_code 107 = .ok (.new 55, 3) := by decide +kernel
theorem d_V_init_110 : decode prog_1_method_1_code 110 = .ok (.dup, 1) := by decide +kernel
theorem d_V_init_111 : decode prog_1_method_1_code 111 = .ok (.invokespecial 57, 3) := by decide +kernel
theorem d_V_init_114 : decode prog_1_method_1_code 114 = .ok (.putfield 58, 3) := by decide +kernel
theorem d_V_init_117 : decode prog_1_method_1_code 117 = .ok (.aload_n 0, 1) := by decide +kernel
theorem d_V_init_118 : decode prog_1_method_1_code 118 = .ok (.bipush 16, 2) := by decide +kernel
theorem d_V_init_120 : decode prog_1_method_1_code 120 = .ok (.newarray .int, 2) := by decide +kernel
theorem d_V_init_122 : decode prog_1_method_1_code 122 = .ok (.putfield 62, 3) := by decide +kernel
theorem d_V_init_125 : decode prog_1_method_1_code 125 = .ok (.return_, 1) := by decide +kernel
theorem d_Ses_init_0 : decode prog_6_method_1_code 0 = .ok (.aload_n 0, 1) := by decide +kernel
theorem d_Ses_init_1 : decode prog_6_method_1_code 1 = .ok (.invokespecial 3, 3) := by decide +kernel
theorem d_Ses_init_4 : decode prog_6_method_1_code 4 = .ok (.aload_n 0, 1) := by decide +kernel
theorem d_Ses_init_5 : decode prog_6_method_1_code 5 = .ok (.bipush 26, 2) := by decide +kernel
theorem d_Ses_init_7 : decode prog_6_method_1_code 7 = .ok (.newarray .char, 2) := by decide +kernel
theorem d_Ses_init_9 : decode prog_6_method_1_code 9 = .ok (.putfield 9, 3) := by decide +kernel
theorem d_Ses_init_12 : decode prog_6_method_1_code 12 = .ok (.aload_n 0, 1) := by decide +kernel
theorem d_Ses_init_13 : decode prog_6_method_1_code 13 = .ok (.iconst 4, 1) := by decide +kernel
theorem d_Ses_init_14 : decode prog_6_method_1_code 14 = .ok (.newarray .int, 2) := by decide +kernel
theorem d_Ses_init_16 : decode prog_6_method_1_code 16 = .ok (.putfield 15, 3) := by decide +kernel
theorem d_Ses_init_19 : decode prog_6_method_1_code 19 = .ok (.aload_n 0, 1) := by decide +kernel
theorem d_Ses_init_20 : decode prog_6_method_1_code 20 = .ok (.iconst 4, 1) := by decide +kernel
theorem d_Ses_init_21 : decode prog_6_method_1_code 21 = .ok (.newarray .int, 2) := by decide +kernel
theorem d_Ses_init_23 : decode prog_6_method_1_code 23 = .ok (.putfield 19, 3) := by decide +kernel
theorem d_Ses_init_26 : decode prog_6_method_1_code 26 = .ok (.aload_n 0, 1) := by decide +kernel
theorem d_Ses_init_27 : decode prog_6_method_1_code 27 = .ok (.invokevirtual 22, 3) := by decide +kernel
theorem d_Ses_init_30 : decode prog_6_method_1_code 30 = .ok (.return_, 1) := by decide +kernel
theorem d_Disk_init_0 : decode prog_2_method_1_code 0 = .ok (.aload_n 0, 1) := by decide +kernel
theorem d_Disk_init_1 : decode prog_2_method_1_code 1 = .ok (.invokespecial 3, 3) := by decide +kernel
theorem d_Disk_init_4 : decode prog_2_method_1_code 4 = .ok (.aload_n 0, 1) := by decide +kernel
theorem d_Disk_init_5 : decode prog_2_method_1_code 5 = .ok (.aload_n 1, 1) := by decide +kernel
theorem d_Disk_init_6 : decode prog_2_method_1_code 6 = .ok (.putfield 9, 3) := by decide +kernel
theorem d_Disk_init_9 : decode prog_2_method_1_code 9 = .ok (.aload_n 0, 1) := by decide +kernel
theorem d_Disk_init_10 : decode prog_2_method_1_code 10 = .ok (.sipush 2240, 3) := by decide +kernel
theorem d_Disk_init_13 : decode prog_2_method_1_code 13 = .ok (.newarray .int, 2) := by decide +kernel
theorem d_Disk_init_15 : decode prog_2_method_1_code 15 = .ok (.putfield 15, 3) := by decide +kernel
theorem d_Disk_init_18 : decode prog_2_method_1_code 18 = .ok (.aload_n 0, 1) := by decide +kernel
theorem d_Disk_init_19 : decode prog_2_method_1_code 19 = .ok (.iconst 1, 1) := by decide +kernel
theorem d_Disk_init_20 : decode prog_2_method_1_code 20 = .ok (.putfield 19, 3) := by decide +kernel
theorem d_Disk_init_23 : decode prog_2_method_1_code 23 = .ok (.iconst 0, 1) := by decide +kernel
theorem d_Disk_init_24 : decode prog_2_method_1_code 24 = .ok (.istore_n 2, 1) := by decide +kernel
theorem d_Disk_init_25 : decode prog_2_method_1_code 25 = .ok (.iload_n 2, 1) := by decide +kernel
theorem d_Disk_init_26 : decode prog_2_method_1_code 26 = .ok (.bipush 6, 2) := by decide +kernel
theorem d_Disk_init_28 : decode prog_2_method_1_code 28 = .ok (.if_icmp .ge 31, 3) := by decide +kernel
theorem d_Disk_init_31 : decode prog_2_method_1_code 31 = .ok (.aload_n 0, 1) := by decide +kernel
theorem d_Disk_init_32 : decode prog_2_method_1_code 32 = .ok (.getfield 15, 3) := by decide +kernel
theorem d_Disk_init_35 : decode prog_2_method_1_code 35 = .ok (.iload_n 2, 1) := by decide +kernel
theorem d_Disk_init_36 : decode prog_2_method_1_code 36 = .ok (.sipush 255, 3) := by decide +kernel
theorem d_Disk_init_39 : decode prog_2_method_1_code 39 = .ok (.iastore, 1) := by decide +kernel
theorem d_Disk_init_40 : decode prog_2_method_1_code 40 = .ok (.aload_n 0, 1) := by decide +kernel
theorem d_Disk_init_41 : decode prog_2_method_1_code 41 = .ok (.getfield 15, 3) := by decide +kernel
theorem d_Disk_init_44 : decode prog_2_method_1_code 44 = .ok (.sipush 128, 3) := by decide +kernel
theorem d_Disk_init_47 : decode prog_2_method_1_code 47 = .ok (.iload_n 2, 1) := by decide +kernel
theorem d_Disk_init_48 : decode prog_2_method_1_code 48 = .ok (.iadd, 1) := by decide +kernel
theorem d_Disk_init_49 : decode prog_2_method_1_code 49 = .ok (.sipush 255, 3) := by decide +kernel
theorem d_Disk_init_52 : decode prog_2_method_1_code 52 = .ok (.iastore, 1) := by decide +kernel
theorem d_Disk_init_53 : decode prog_2_method_1_code 53 = .ok (.iinc 2 1, 3) := by decide +kernel
theorem d_Disk_init_56 : decode prog_2_method_1_code 56 = .ok (.goto (-31), 3) := by decide +kernel
theorem d_Disk_init_59 : decode prog_2_method_1_code 59 = .ok (.return_, 1) := by decide +kernel
theorem d_Table_init_0 : decode prog_7_method_1_code 0 = .ok (.aload_n 0, 1) := by decide +kernel
theorem d_Table_init_1 : decode prog_7_method_1_code 1 = .ok (.invokespecial 3, 3) := by decide +kernel
theorem d_Table_init_4 : decode prog_7_method_1_code 4 = .ok (.aload_n 0, 1) := by decide +kernel
theorem d_Table_init_5 : decode prog_7_method_1_code 5 = .ok (.aload_n 1, 1) := by decide +kernel
theorem d_Table_init_6 : decode prog_7_method_1_code 6 = .ok (.putfield 9, 3) := by decide +kernel
theorem d_Table_init_9 : decode prog_7_method_1_code 9 = .ok (.return_, 1) := by decide +kernel
theorem d_Folder_init_0 : decode prog_3_method_1_code 0 = .ok (.aload_n 0, 1) := by decide +kernel
theorem d_Folder_init_1 : decode prog_3_method_1_code 1 = .ok (.invokespecial 3, 3) := by decide +kernel
theorem d_Folder_init_4 : decode prog_3_method_1_code 4 = .ok (.aload_n 0, 1) := by decide +kernel
theorem d_Folder_init_5 : decode prog_3_method_1_code 5 = .ok (.aload_n 1, 1) := by decide +kernel
theorem d_Folder_init_6 : decode prog_3_method_1_code 6 = .ok (.putfield 9, 3) := by decide +kernel
theorem d_Folder_init_9 : decode prog_3_method_1_code 9 = .ok (.aload_n 0, 1) := by decide +kernel
theorem d_Folder_init_10 : decode prog_3_method_1_code 10 = .ok (.aload_n 2, 1) := by decide +kernel
theorem d_Folder_init_11 : decode prog_3_method_1_code 11 = .ok (.putfield 15, 3) := by decide +kernel
theorem d_Folder_init_14 : decode prog_3_method_1_code 14 = .ok (.aload_n 0, 1) := by decide +kernel
theorem d_Folder_init_15 : decode prog_3_method_1_code 15 = .ok (.sipush 128, 3) := by decide +kernel
theorem d_Folder_init_18 : decode prog_3_method_1_code 18 = .ok (.newarray .int, 2) := by decide +kernel
theorem d_Folder_init_20 : decode prog_3_method_1_code 20 = .ok (.putfield 19, 3) := by decide +kernel
theorem d_Folder_init_23 : decode prog_3_method_1_code 23 = .ok (.return_, 1) := by decide +kernel
theorem d_Rep_init_0 : decode prog_5_method_1_code 0 = .ok (.aload_n 0, 1) := by decide +kernel
theorem d_Rep_init_1 : decode prog_5_method_1_code 1 = .ok (.invokespecial 3, 3) := by decide +kernel
theorem d_Rep_init_4 : decode prog_5_method_1_code 4 = .ok (.aload_n 0, 1) := by decide +kernel
theorem d_Rep_init_5 : decode prog_5_method_1_code 5 = .ok (.aload_n 1, 1) := by decide +kernel
theorem d_Rep_init_6 : decode prog_5_method_1_code 6 = .ok (.putfield 9, 3) := by decide +kernel
theorem d_Rep_init_9 : decode prog_5_method_1_code 9 = .ok (.aload_n 0, 1) := by decide +kernel
theorem d_Rep_init_10 : decode prog_5_method_1_code 10 = .ok (.aload_n 2, 1) := by decide +kernel
theorem d_Rep_init_11 : decode prog_5_method_1_code 11 = .ok (.putfield 15, 3) := by decide +kernel
theorem d_Rep_init_14 : decode prog_5_method_1_code 14 = .ok (.aload_n 0, 1) := by decide +kernel
theorem d_Rep_init_15 : decode prog_5_method_1_code 15 = .ok (.aload_n 3, 1) := by decide +kernel
theorem d_Rep_init_16 : decode prog_5_method_1_code 16 = .ok (.putfield 19, 3) := by decide +kernel
theorem d_Rep_init_19 : decode prog_5_method_1_code 19 = .ok (.aload_n 0, 1) := by decide +kernel
theorem d_Rep_init_20 : decode prog_5_method_1_code 20 = .ok (.bipush 64, 2) := by decide +kernel
theorem d_Rep_init_22 : decode prog_5_method_1_code 22 = .ok (.newarray .boolean, 2) := by decide +kernel
theorem d_Rep_init_24 : decode prog_5_method_1_code 24 = .ok (.putfield 23, 3) := by decide +kernel
theorem d_Rep_init_27 : decode prog_5_method_1_code 27 = .ok (.return_, 1) := by decide +kernel
theorem d_Name_init_0 : decode prog_4_method_1_code 0 = .ok (.aload_n 0, 1) := by decide +kernel
theorem d_Name_init_1 : decode prog_4_method_1_code 1 = .ok (.invokespecial 3, 3) := by decide +kernel
theorem d_Name_init_4 : decode prog_4_method_1_code 4 = .ok (.aload_n 0, 1) := by decide +kernel
theorem d_Name_init_5 : decode prog_4_method_1_code 5 = .ok (.bipush 26, 2) := by decide +kernel
theorem d_Name_init_7 : decode prog_4_method_1_code 7 = .ok (.newarray .char, 2) := by decide +kernel
theorem d_Name_init_9 : decode prog_4_method_1_code 9 = .ok (.putfield 9, 3) := by decide +kernel
theorem d_Name_init_12 : decode prog_4_method_1_code 12 = .ok (.aload_n 0, 1) := by decide +kernel
theorem d_Name_init_13 : decode prog_4_method_1_code 13 = .ok (.bipush 6, 2) := by decide +kernel
theorem d_Name_init_15 : decode prog_4_method_1_code 15 = .ok (.newarray .int, 2) := by decide +kernel
theorem d_Name_init_17 : decode prog_4_method_1_code 17 = .ok (.putfield 15, 3) := by decide +kernel
theorem d_Name_init_20 : decode prog_4_method_1_code 20 = .ok (.return_, 1) := by decide +kernel
theorem d_M_init_0 : decode prog_9_method_1_code 0 = .ok (.aload_n 0, 1) := by decide +kernel
theorem d_M_init_1 : decode prog_9_method_1_code 1 = .ok (.invokespecial 1, 3) := by decide +kernel
theorem d_M_init_4 : decode prog_9_method_1_code 4 = .ok (.aload_n 0, 1) := by decide +kernel
theorem d_M_init_5 : decode prog_9_method_1_code 5 = .ok (.sipush 2240, 3) := by decide +kernel
theorem d_M_init_8 : decode prog_9_method_1_code 8 = .ok (.newarray .int, 2) := by decide +kernel
theorem d_M_init_10 : decode prog_9_method_1_code 10 = .ok (.putfield 7, 3) := by decide +kernel
theorem d_M_init_13 : decode prog_9_method_1_code 13 = .ok (.aload_n 0, 1) := by decide +kernel
theorem d_M_init_14 : decode prog_9_method_1_code 14 = .ok (.iconst 1, 1) := by decide +kernel
theorem d_M_init_15 : decode prog_9_method_1_code 15 = .ok (.putfield 13, 3) := by decide +kernel
theorem d_M_init_18 : decode prog_9_method_1_code 18 = .ok (.aload_n 0, 1) := by decide +kernel
theorem d_M_init_19 : decode prog_9_method_1_code 19 = .ok (.iconst (-1), 1) := by decide +kernel
theorem d_M_init_20 : decode prog_9_method_1_code 20 = .ok (.putfield 17, 3) := by decide +kernel
theorem d_M_init_23 : decode prog_9_method_1_code 23 = .ok (.aload_n 0, 1) := by decide +kernel
theorem d_M_init_24 : decode prog_9_method_1_code 24 = .ok (.bipush 26, 2) := by decide +kernel
theorem d_M_init_26 : decode prog_9_method_1_code 26 = .ok (.newarray .int, 2) := by decide +kernel
theorem d_M_init_28 : decode prog_9_method_1_code 28 = .ok (.putfield 21, 3) := by decide +kernel
theorem d_M_init_31 : decode prog_9_method_1_code 31 = .ok (.aload_n 0, 1) := by decide +kernel
theorem d_M_init_32 : decode prog_9_method_1_code 32 = .ok (.iconst 2, 1) := by decide +kernel
theorem d_M_init_33 : decode prog_9_method_1_code 33 = .ok (.putfield 24, 3) := by decide +kernel
theorem d_M_init_36 : decode prog_9_method_1_code 36 = .ok (.aload_n 0, 1) := by decide +kernel
theorem d_M_init_37 : decode prog_9_method_1_code 37 = .ok (.iconst 1, 1) := by decide +kernel
theorem d_M_init_38 : decode prog_9_method_1_code 38 = .ok (.putfield 27, 3) := by decide +kernel
theorem d_M_init_41 : decode prog_9_method_1_code 41 = .ok (.aload_n 0, 1) := by decide +kernel
theorem d_M_init_42 : decode prog_9_method_1_code 42 = .ok (.iconst 4, 1) := by decide +kernel
theorem d_M_init_43 : decode prog_9_method_1_code 43 = .ok (.newarray .int, 2) := by decide +kernel
theorem d_M_init_45 : decode prog_9_method_1_code 45 = .ok (.putfield 30, 3) := by decide +kernel
theorem d_M_init_48 : decode prog_9_method_1_code 48 = .ok (.aload_n 0, 1) := by decide +kernel
theorem d_M_init_49 : decode prog_9_method_1_code 49 = .ok (.iconst 4, 1) := by decide +kernel
theorem d_M_init_50 : decode prog_9_method_1_code 50 = .ok (.newarray .int, 2) := by decide +kernel
theorem d_M_init_52 : decode prog_9_method_1_code 52 = .ok (.putfield 33, 3) := by decide +kernel
theorem d_M_init_55 : decode prog_9_method_1_code 55 = .ok (.aload_n 0, 1) := by decide +kernel
theorem d_M_init_56 : decode prog_9_method_1_code 56 = .ok (.bipush 6, 2) := by decide +kernel
theorem d_M_init_58 : decode prog_9_method_1_code 58 = .ok (.newarray .int, 2) := by decide +kernel
theorem d_M_init_60 : decode prog_9_method_1_code 60 = .ok (.putfield 36, 3) := by decide +kernel
theorem d_M_init_63 : decode prog_9_method_1_code 63 = .ok (.aload_n 0, 1) := by decide +kernel
theorem d_M_init_64 : decode prog_9_method_1_code 64 = .ok (.bipush 64, 2) := by decide +kernel
theorem d_M_init_66 : decode prog_9_method_1_code 66 = .ok (.newarray .boolean, 2) := by decide +kernel
theorem d_M_init_68 : decode prog_9_method_1_code 68 = .ok (.putfield 39, 3) := by decide +kernel
theorem d_M_init_71 : decode prog_9_method_1_code 71 = .ok (.aload_n 0, 1) := by decide +kernel
theorem d_M_init_72 : decode prog_9_method_1_code 72 = .ok (.bipush 64, 2) := by decide +kernel
theorem d_M_init_74 : decode prog_9_method_1_code 74 = .ok (.newarray .int, 2) := by decide +kernel
theorem d_M_init_76 : decode prog_9_method_1_code 76 = .ok (.putfield 43, 3) := by decide +kernel
theorem d_M_init_79 : decode prog_9_method_1_code 79 = .ok (.aload_n 0, 1) := by decide +kernel
theorem d_M_init_80 : decode prog_9_method_1_code 80 = .ok (.iconst 5, 1) := by decide +kernel
theorem d_M_init_81 : decode prog_9_method_1_code 81 = .ok (.newarray .int, 2) := by decide +kernel
theorem d_M_init_83 : decode prog_9_method_1_code 83 = .ok (.putfield 46, 3) := by decide +kernel
theorem d_M_init_86 : decode prog_9_method_1_code 86 = .ok (.aload_n 0, 1) := by decide +kernel
theorem d_M_init_87 : decode prog_9_method_1_code 87 = .ok (.iconst 5, 1) := by decide +kernel
theorem d_M_init_88 : decode prog_9_method_1_code 88 = .ok (.newarray .int, 2) := by decide +kernel
theorem d_M_init_90 : decode prog_9_method_1_code 90 = .ok (.putfield 49, 3) := by decide +kernel
theorem d_M_init_93 : decode prog_9_method_1_code 93 = .ok (.iconst 0, 1) := by decide +kernel
theorem d_M_init_94 : decode prog_9_method_1_code 94 = .ok (.istore_n 1, 1) := by decide +kernel
theorem d_M_init_95 : decode prog_9_method_1_code 95 = .ok (.iload_n 1, 1) := by decide +kernel
theorem d_M_init_96 : decode prog_9_method_1_code 96 = .ok (.iconst 3, 1) := by decide +kernel
theorem d_M_init_97 : decode prog_9_method_1_code 97 = .ok (.if_icmp .ge 31, 3) := by decide +kernel
theorem d_M_init_100 : decode prog_9_method_1_code 100 = .ok (.aload_n 0, 1) := by decide +kernel
theorem d_M_init_101 : decode prog_9_method_1_code 101 = .ok (.iconst 2, 1) := by decide +kernel
theorem d_M_init_102 : decode prog_9_method_1_code 102 = .ok (.iload_n 1, 1) := by decide +kernel
theorem d_M_init_103 : decode prog_9_method_1_code 103 = .ok (.imul, 1) := by decide +kernel
theorem d_M_init_104 : decode prog_9_method_1_code 104 = .ok (.ldc 52, 2) := by decide +kernel
theorem d_M_init_106 : decode prog_9_method_1_code 106 = .ok (.invokevirtual 53, 3) := by decide +kernel
theorem d_M_init_109 : decode prog_9_method_1_code 109 = .ok (.aload_n 0, 1) := by decide +kernel
theorem d_M_init_110 : decode prog_9_method_1_code 110 = .ok (.sipush 128, 3) := by decide +kernel
theorem d_M_init_113 : decode prog_9_method_1_code 113 = .ok (.iconst 2, 1) := by decide +kernel
theorem d_M_init_114 : decode prog_9_method_1_code 114 = .ok (.iload_n 1, 1) := by decide +kernel
theorem d_M_init_115 : decode prog_9_method_1_code 115 = .ok (.imul, 1) := by decide +kernel
theorem d_M_init_116 : decode prog_9_method_1_code 116 = .ok (.iadd, 1) := by decide +kernel
theorem d_M_init_117 : decode prog_9_method_1_code 117 = .ok (.ldc 52, 2) := by decide +kernel
theorem d_M_init_119 : decode prog_9_method_1_code 119 = .ok (.invokevirtual 53, 3) := by decide +kernel
theorem d_M_init_122 : decode prog_9_method_1_code 122 = .ok (.iinc 1 1, 3) := by decide +kernel
theorem d_M_init_125 : decode prog_9_method_1_code 125 = .ok (.goto (-30), 3) := by decide +kernel
theorem d_M_init_128 : decode prog_9_method_1_code 128 = .ok (.return_, 1) := by decide +kernel
theorem d_L_create_0 : decode method_3_code 0 = .ok (.aload_n 0, 1) := by decide +kernel
theorem d_L_create_1 : decode method_3_code 1 = .ok (.iload_n 1, 1) := by decide +kernel
theorem d_L_create_2 : decode method_3_code 2 = .ok (.invokevirtual 7, 3) := by decide +kernel
theorem d_L_create_5 : decode method_3_code 5 = .ok (.goto 12, 3) := by decide +kernel
theorem d_L_create_8 : decode method_3_code 8 = .ok (.astore_n 2, 1) := by decide +kernel
theorem d_L_create_9 : decode method_3_code 9 = .ok (.iconst 1, 1) := by decide +kernel
theorem d_L_create_10 : decode method_3_code 10 = .ok (.ireturn, 1) := by decide +kernel
theorem d_L_create_11 : decode method_3_code 11 = .ok (.astore_n 2, 1) := by decide +kernel
theorem d_L_create_12 : decode method_3_code 12 = .ok (.iconst 2, 1) := by decide +kernel
theorem d_L_create_13 : decode method_3_code 13 = .ok (.ireturn, 1) := by decide +kernel
theorem d_L_create_14 : decode method_3_code 14 = .ok (.astore_n 2, 1) := by decide +kernel
theorem d_L_create_15 : decode method_3_code 15 = .ok (.iconst 3, 1) := by decide +kernel
theorem d_L_create_16 : decode method_3_code 16 = .ok (.ireturn, 1) := by decide +kernel
theorem d_L_create_17 : decode method_3_code 17 = .ok (.iconst 0, 1) := by decide +kernel
theorem d_L_create_18 : decode method_3_code 18 = .ok (.ireturn, 1) := by decide +kernel
theorem d_L_delete_0 : decode method_4_code 0 = .ok (.aload_n 0, 1) := by decide +kernel
theorem d_L_delete_1 : decode method_4_code 1 = .ok (.invokevirtual 19, 3) := by decide +kernel
theorem d_L_delete_4 : decode method_4_code 4 = .ok (.goto 12, 3) := by decide +kernel
theorem d_L_delete_7 : decode method_4_code 7 = .ok (.astore_n 1, 1) := by decide +kernel
theorem d_L_delete_8 : decode method_4_code 8 = .ok (.iconst 1, 1) := by decide +kernel
theorem d_L_delete_9 : decode method_4_code 9 = .ok (.ireturn, 1) := by decide +kernel
theorem d_L_delete_10 : decode method_4_code 10 = .ok (.astore_n 1, 1) := by decide +kernel
theorem d_L_delete_11 : decode method_4_code 11 = .ok (.iconst 2, 1) := by decide +kernel
theorem d_L_delete_12 : decode method_4_code 12 = .ok (.ireturn, 1) := by decide +kernel
theorem d_L_delete_13 : decode method_4_code 13 = .ok (.astore_n 1, 1) := by decide +kernel
theorem d_L_delete_14 : decode method_4_code 14 = .ok (.iconst 3, 1) := by decide +kernel
theorem d_L_delete_15 : decode method_4_code 15 = .ok (.ireturn, 1) := by decide +kernel
theorem d_L_delete_16 : decode method_4_code 16 = .ok (.iconst 0, 1) := by decide +kernel
theorem d_L_delete_17 : decode method_4_code 17 = .ok (.ireturn, 1) := by decide +kernel
theorem d_L_enter_0 : decode method_5_code 0 = .ok (.aload_n 0, 1) := by decide +kernel
theorem d_L_enter_1 : decode method_5_code 1 = .ok (.invokevirtual 24, 3) := by decide +kernel
theorem d_L_enter_4 : decode method_5_code 4 = .ok (.goto 9, 3) := by decide +kernel
theorem d_L_enter_7 : decode method_5_code 7 = .ok (.astore_n 1, 1) := by decide +kernel
theorem d_L_enter_8 : decode method_5_code 8 = .ok (.iconst 1, 1) := by decide +kernel
theorem d_L_enter_9 : decode method_5_code 9 = .ok (.ireturn, 1) := by decide +kernel
theorem d_L_enter_10 : decode method_5_code 10 = .ok (.astore_n 1, 1) := by decide +kernel
theorem d_L_enter_11 : decode method_5_code 11 = .ok (.iconst 2, 1) := by decide +kernel
theorem d_L_enter_12 : decode method_5_code 12 = .ok (.ireturn, 1) := by decide +kernel
theorem d_L_enter_13 : decode method_5_code 13 = .ok (.iconst 0, 1) := by decide +kernel
theorem d_L_enter_14 : decode method_5_code 14 = .ok (.ireturn, 1) := by decide +kernel
theorem d_L_open_0 : decode method_6_code 0 = .ok (.aload_n 1, 1) := by decide +kernel
theorem d_L_open_1 : decode method_6_code 1 = .ok (.iconst 0, 1) := by decide +kernel
theorem d_L_open_2 : decode method_6_code 2 = .ok (.aload_n 0, 1) := by decide +kernel
theorem d_L_open_3 : decode method_6_code 3 = .ok (.invokevirtual 27, 3) := by decide +kernel
theorem d_L_open_6 : decode method_6_code 6 = .ok (.i2l, 1) := by decide +kernel
theorem d_L_open_7 : decode method_6_code 7 = .ok (.lastore, 1) := by decide +kernel
theorem d_L_open_8 : decode method_6_code 8 = .ok (.goto 12, 3) := by decide +kernel
theorem d_L_open_11 : decode method_6_code 11 = .ok (.astore_n 2, 1) := by decide +kernel
theorem d_L_open_12 : decode method_6_code 12 = .ok (.iconst 1, 1) := by decide +kernel
theorem d_L_open_13 : decode method_6_code 13 = .ok (.ireturn, 1) := by decide +kernel
theorem d_L_open_14 : decode method_6_code 14 = .ok (.astore_n 2, 1) := by decide +kernel
theorem d_L_open_15 : decode method_6_code 15 = .ok (.iconst 2, 1) := by decide +kernel
theorem d_L_open_16 : decode method_6_code 16 = .ok (.ireturn, 1) := by decide +kernel
theorem d_L_open_17 : decode method_6_code 17 = .ok (.astore_n 2, 1) := by decide +kernel
theorem d_L_open_18 : decode method_6_code 18 = .ok (.iconst 3, 1) := by decide +kernel
theorem d_L_open_19 : decode method_6_code 19 = .ok (.ireturn, 1) := by decide +kernel
theorem d_L_open_20 : decode method_6_code 20 = .ok (.iconst 0, 1) := by decide +kernel
theorem d_L_open_21 : decode method_6_code 21 = .ok (.ireturn, 1) := by decide +kernel
theorem d_L_read_0 : decode method_7_code 0 = .ok (.aload_n 3, 1) := by decide +kernel
theorem d_L_read_1 : decode method_7_code 1 = .ok (.iconst 0, 1) := by decide +kernel
theorem d_L_read_2 : decode method_7_code 2 = .ok (.aload_n 0, 1) := by decide +kernel
theorem d_L_read_3 : decode method_7_code 3 = .ok (.iload_n 1, 1) := by decide +kernel
theorem d_L_read_4 : decode method_7_code 4 = .ok (.iload_n 2, 1) := by decide +kernel
theorem d_L_read_5 : decode method_7_code 5 = .ok (.invokevirtual 31, 3) := by decide +kernel
theorem d_L_read_8 : decode method_7_code 8 = .ok (.lastore, 1) := by decide +kernel
theorem d_L_read_9 : decode method_7_code 9 = .ok (.goto 11, 3) := by decide +kernel
theorem d_L_read_12 : decode method_7_code 12 = .ok (.astore 4, 2) := by decide +kernel
theorem d_L_read_14 : decode method_7_code 14 = .ok (.iconst 1, 1) := by decide +kernel
theorem d_L_read_15 : decode method_7_code 15 = .ok (.ireturn, 1) := by decide +kernel
theorem d_L_read_16 : decode method_7_code 16 = .ok (.astore 4, 2) := by decide +kernel
theorem d_L_read_18 : decode method_7_code 18 = .ok (.iconst 2, 1) := by decide +kernel
theorem d_L_read_19 : decode method_7_code 19 = .ok (.ireturn, 1) := by decide +kernel
theorem d_L_read_20 : decode method_7_code 20 = .ok (.iconst 0, 1) := by decide +kernel
theorem d_L_read_21 : decode method_7_code 21 = .ok (.ireturn, 1) := by decide +kernel
theorem d_L_write_0 : decode method_8_code 0 = .ok (.aload 5, 2) := by decide +kernel
theorem d_L_write_2 : decode method_8_code 2 = .ok (.iconst 0, 1) := by decide +kernel
theorem d_L_write_3 : decode method_8_code 3 = .ok (.aload_n 0, 1) := by decide +kernel
theorem d_L_write_4 : decode method_8_code 4 = .ok (.iload_n 1, 1) := by decide +kernel
theorem d_L_write_5 : decode method_8_code 5 = .ok (.lload_n 2, 1) := by decide +kernel
theorem d_L_write_6 : decode method_8_code 6 = .ok (.iload 4, 2) := by decide +kernel
theorem d_L_write_8 : decode method_8_code 8 = .ok (.invokevirtual 35, 3) := by decide +kernel
theorem d_L_write_11 : decode method_8_code 11 = .ok (.i2l, 1) := by decide +kernel
theorem d_L_write_12 : decode method_8_code 12 = .ok (.lastore, 1) := by decide +kernel
theorem d_L_write_13 : decode method_8_code 13 = .ok (.goto 15, 3) := by decide +kernel
theorem d_L_write_16 : decode method_8_code 16 = .ok (.astore 6, 2) := by decide +kernel
theorem d_L_write_18 : decode method_8_code 18 = .ok (.iconst 1, 1) := by decide +kernel
theorem d_L_write_19 : decode method_8_code 19 = .ok (.ireturn, 1) := by decide +kernel
theorem d_L_write_20 : decode method_8_code 20 = .ok (.astore 6, 2) := by decide +kernel
theorem d_L_write_22 : decode method_8_code 22 = .ok (.iconst 2, 1) := by decide +kernel
theorem d_L_write_23 : decode method_8_code 23 = .ok (.ireturn, 1) := by decide +kernel
theorem d_L_write_24 : decode method_8_code 24 = .ok (.astore 6, 2) := by decide +kernel
theorem d_L_write_26 : decode method_8_code 26 = .ok (.iconst 3, 1) := by decide +kernel
theorem d_L_write_27 : decode method_8_code 27 = .ok (.ireturn, 1) := by decide +kernel
theorem d_L_write_28 : decode method_8_code 28 = .ok (.iconst 0, 1) := by decide +kernel
theorem d_L_write_29 : decode method_8_code 29 = .ok (.ireturn, 1) := by decide +kernel
theorem d_L_list_0 : decode method_9_code 0 = .ok (.aload_n 3, 1) := by decide +kernel
theorem d_L_list_1 : decode method_9_code 1 = .ok (.iconst 0, 1) := by decide +kernel
theorem d_L_list_2 : decode method_9_code 2 = .ok (.aload_n 0, 1) := by decide +kernel
theorem d_L_list_3 : decode method_9_code 3 = .ok (.iload_n 1, 1) := by decide +kernel
theorem d_L_list_4 : decode method_9_code 4 = .ok (.iload_n 2, 1) := by decide +kernel
theorem d_L_list_5 : decode method_9_code 5 = .ok (.invokevirtual 39, 3) := by decide +kernel
theorem d_L_list_8 : decode method_9_code 8 = .ok (.i2l, 1) := by decide +kernel
theorem d_L_list_9 : decode method_9_code 9 = .ok (.lastore, 1) := by decide +kernel
theorem d_L_list_10 : decode method_9_code 10 = .ok (.goto 15, 3) := by decide +kernel
theorem d_L_list_13 : decode method_9_code 13 = .ok (.astore 4, 2) := by decide +kernel
theorem d_L_list_15 : decode method_9_code 15 = .ok (.iconst 1, 1) := by decide +kernel
theorem d_L_list_16 : decode method_9_code 16 = .ok (.ireturn, 1) := by decide +kernel
theorem d_L_list_17 : decode method_9_code 17 = .ok (.astore 4, 2) := by decide +kernel
theorem d_L_list_19 : decode method_9_code 19 = .ok (.iconst 2, 1) := by decide +kernel
theorem d_L_list_20 : decode method_9_code 20 = .ok (.ireturn, 1) := by decide +kernel
theorem d_L_list_21 : decode method_9_code 21 = .ok (.astore 4, 2) := by decide +kernel
theorem d_L_list_23 : decode method_9_code 23 = .ok (.iconst 3, 1) := by decide +kernel
theorem d_L_list_24 : decode method_9_code 24 = .ok (.ireturn, 1) := by decide +kernel
theorem d_L_list_25 : decode method_9_code 25 = .ok (.iconst 0, 1) := by decide +kernel
theorem d_L_list_26 : decode method_9_code 26 = .ok (.ireturn, 1) := by decide +kernel
theorem d_L_repair_0 : decode method_10_code 0 = .ok (.aload_n 1, 1) := by decide +kernel
theorem d_L_repair_1 : decode method_10_code 1 = .ok (.iconst 0, 1) := by decide +kernel
theorem d_L_repair_2 : decode method_10_code 2 = .ok (.aload_n 0, 1) := by decide +kernel
theorem d_L_repair_3 : decode method_10_code 3 = .ok (.invokevirtual 45, 3) := by decide +kernel
theorem d_L_repair_6 : decode method_10_code 6 = .ok (.i2l, 1) := by decide +kernel
theorem d_L_repair_7 : decode method_10_code 7 = .ok (.lastore, 1) := by decide +kernel
theorem d_L_repair_8 : decode method_10_code 8 = .ok (.goto 6, 3) := by decide +kernel
theorem d_L_repair_11 : decode method_10_code 11 = .ok (.astore_n 2, 1) := by decide +kernel
theorem d_L_repair_12 : decode method_10_code 12 = .ok (.iconst 1, 1) := by decide +kernel
theorem d_L_repair_13 : decode method_10_code 13 = .ok (.ireturn, 1) := by decide +kernel
theorem d_L_repair_14 : decode method_10_code 14 = .ok (.iconst 0, 1) := by decide +kernel
theorem d_L_repair_15 : decode method_10_code 15 = .ok (.ireturn, 1) := by decide +kernel
theorem d_L_law_0 : decode code 0 = .ok (.new 8, 3) := by decide +kernel
theorem d_L_law_3 : decode code 3 = .ok (.dup, 1) := by decide +kernel
theorem d_L_law_4 : decode code 4 = .ok (.invokespecial 48, 3) := by decide +kernel
theorem d_L_law_7 : decode code 7 = .ok (.astore_n 1, 1) := by decide +kernel
theorem d_L_law_8 : decode code 8 = .ok (.new 49, 3) := by decide +kernel
theorem d_L_law_11 : decode code 11 = .ok (.dup, 1) := by decide +kernel
theorem d_L_law_12 : decode code 12 = .ok (.invokespecial 51, 3) := by decide +kernel
theorem d_L_law_15 : decode code 15 = .ok (.astore_n 2, 1) := by decide +kernel
theorem d_L_law_16 : decode code 16 = .ok (.iconst 1, 1) := by decide +kernel
theorem d_L_law_17 : decode code 17 = .ok (.newarray .long, 2) := by decide +kernel
theorem d_L_law_19 : decode code 19 = .ok (.astore_n 3, 1) := by decide +kernel
theorem d_L_law_20 : decode code 20 = .ok (.iconst 0, 1) := by decide +kernel
theorem d_L_law_21 : decode code 21 = .ok (.istore 4, 2) := by decide +kernel
theorem d_L_law_23 : decode code 23 = .ok (.iload 4, 2) := by decide +kernel
theorem d_L_law_25 : decode code 25 = .ok (.aload_n 0, 1) := by decide +kernel
theorem d_L_law_26 : decode code 26 = .ok (.arraylength, 1) := by decide +kernel
theorem d_L_law_27 : decode code 27 = .ok (.iconst 5, 1) := by decide +kernel
theorem d_L_law_28 : decode code 28 = .ok (.isub, 1) := by decide +kernel
theorem d_L_law_29 : decode code 29 = .ok (.if_icmp .gt 578, 3) := by decide +kernel
theorem d_L_law_32 : decode code 32 = .ok (.aload_n 0, 1) := by decide +kernel
theorem d_L_law_33 : decode code 33 = .ok (.iload 4, 2) := by decide +kernel
theorem d_L_law_35 : decode code 35 = .ok (.iaload, 1) := by decide +kernel
theorem d_L_law_36 : decode code 36 = .ok (.bipush 15, 2) := by decide +kernel
theorem d_L_law_38 : decode code 38 = .ok (.iand, 1) := by decide +kernel
theorem d_L_law_39 : decode code 39 = .ok (.tableswitch 562 0 15 #[77, 104, 129, 142, 155, 171, 196, 233, 273, 357, 397, 422, 435, 451, 488, 537], 77) := by decide +kernel
theorem d_L_law_116 : decode code 116 = .ok (.aload_n 1, 1) := by decide +kernel
theorem d_L_law_117 : decode code 117 = .ok (.aload_n 0, 1) := by decide +kernel
theorem d_L_law_118 : decode code 118 = .ok (.iload 4, 2) := by decide +kernel
theorem d_L_law_120 : decode code 120 = .ok (.iconst 1, 1) := by decide +kernel
theorem d_L_law_121 : decode code 121 = .ok (.iadd, 1) := by decide +kernel
theorem d_L_law_122 : decode code 122 = .ok (.iaload, 1) := by decide +kernel
theorem d_L_law_123 : decode code 123 = .ok (.i2c, 1) := by decide +kernel
theorem d_L_law_124 : decode code 124 = .ok (.invokevirtual 52, 3) := by decide +kernel
theorem d_L_law_127 : decode code 127 = .ok (.pop, 1) := by decide +kernel
theorem d_L_law_128 : decode code 128 = .ok (.aload_n 2, 1) := by decide +kernel
theorem d_L_law_129 : decode code 129 = .ok (.aload_n 0, 1) := by decide +kernel
theorem d_L_law_130 : decode code 130 = .ok (.iload 4, 2) := by decide +kernel
theorem d_L_law_132 : decode code 132 = .ok (.iconst 1, 1) := by decide +kernel
theorem d_L_law_133 : decode code 133 = .ok (.iadd, 1) := by decide +kernel
theorem d_L_law_134 : decode code 134 = .ok (.iaload, 1) := by decide +kernel
theorem d_L_law_135 : decode code 135 = .ok (.i2c, 1) := by decide +kernel
theorem d_L_law_136 : decode code 136 = .ok (.invokevirtual 56, 3) := by decide +kernel
theorem d_L_law_139 : decode code 139 = .ok (.pop, 1) := by decide +kernel
theorem d_L_law_140 : decode code 140 = .ok (.goto 461, 3) := by decide +kernel
theorem d_L_law_143 : decode code 143 = .ok (.aload_n 1, 1) := by decide +kernel
theorem d_L_law_144 : decode code 144 = .ok (.aload_n 0, 1) := by decide +kernel
theorem d_L_law_145 : decode code 145 = .ok (.iload 4, 2) := by decide +kernel
theorem d_L_law_147 : decode code 147 = .ok (.iconst 1, 1) := by decide +kernel
theorem d_L_law_148 : decode code 148 = .ok (.iadd, 1) := by decide +kernel
theorem d_L_law_149 : decode code 149 = .ok (.iaload, 1) := by decide +kernel
theorem d_L_law_150 : decode code 150 = .ok (.invokestatic 57, 3) := by decide +kernel
theorem d_L_law_153 : decode code 153 = .ok (.istore 5, 2) := by decide +kernel
theorem d_L_law_155 : decode code 155 = .ok (.aload_n 2, 1) := by decide +kernel
theorem d_L_law_156 : decode code 156 = .ok (.aload_n 0, 1) := by decide +kernel
theorem d_L_law_157 : decode code 157 = .ok (.iload 4, 2) := by decide +kernel
theorem d_L_law_159 : decode code 159 = .ok (.iconst 1, 1) := by decide +kernel
theorem d_L_law_160 : decode code 160 = .ok (.iadd, 1) := by decide +kernel
theorem d_L_law_161 : decode code 161 = .ok (.iaload, 1) := by decide +kernel
theorem d_L_law_162 : decode code 162 = .ok (.invokevirtual 62, 3) := by decide +kernel
theorem d_L_law_165 : decode code 165 = .ok (.goto 436, 3) := by decide +kernel
theorem d_L_law_168 : decode code 168 = .ok (.aload_n 1, 1) := by decide +kernel
theorem d_L_law_169 : decode code 169 = .ok (.invokestatic 63, 3) := by decide +kernel
theorem d_L_law_172 : decode code 172 = .ok (.istore 5, 2) := by decide +kernel
theorem d_L_law_174 : decode code 174 = .ok (.aload_n 2, 1) := by decide +kernel
theorem d_L_law_175 : decode code 175 = .ok (.invokevirtual 66, 3) := by decide +kernel
theorem d_L_law_178 : decode code 178 = .ok (.goto 423, 3) := by decide +kernel
theorem d_L_law_181 : decode code 181 = .ok (.aload_n 1, 1) := by decide +kernel
theorem d_L_law_182 : decode code 182 = .ok (.invokestatic 67, 3) := by decide +kernel
theorem d_L_law_185 : decode code 185 = .ok (.istore 5, 2) := by decide +kernel
theorem d_L_law_187 : decode code 187 = .ok (.aload_n 2, 1) := by decide +kernel
theorem d_L_law_188 : decode code 188 = .ok (.invokevirtual 69, 3) := by decide +kernel
theorem d_L_law_191 : decode code 191 = .ok (.goto 410, 3) := by decide +kernel
theorem d_L_law_194 : decode code 194 = .ok (.aload_n 1, 1) := by decide +kernel
theorem d_L_law_195 : decode code 195 = .ok (.aload_n 3, 1) := by decide +kernel
theorem d_L_law_196 : decode code 196 = .ok (.invokestatic 70, 3) := by decide +kernel
theorem d_L_law_199 : decode code 199 = .ok (.istore 5, 2) := by decide +kernel
theorem d_L_law_201 : decode code 201 = .ok (.aload_n 2, 1) := by decide +kernel
theorem d_L_law_202 : decode code 202 = .ok (.invokevirtual 73, 3) := by decide +kernel
theorem d_L_law_205 : decode code 205 = .ok (.istore 6, 2) := by decide +kernel
theorem d_L_law_207 : decode code 207 = .ok (.goto 394, 3) := by decide +kernel
theorem d_L_law_210 : decode code 210 = .ok (.aload_n 1, 1) := by decide +kernel
theorem d_L_law_211 : decode code 211 = .ok (.aload_n 0, 1) := by decide +kernel
theorem d_L_law_212 : decode code 212 = .ok (.iload 4, 2) := by decide +kernel
theorem d_L_law_214 : decode code 214 = .ok (.iconst 1, 1) := by decide +kernel
theorem d_L_law_215 : decode code 215 = .ok (.iadd, 1) := by decide +kernel
theorem d_L_law_216 : decode code 216 = .ok (.iaload, 1) := by decide +kernel
theorem d_L_law_217 : decode code 217 = .ok (.invokevirtual 74, 3) := by decide +kernel
theorem d_L_law_220 : decode code 220 = .ok (.pop, 1) := by decide +kernel
theorem d_L_law_221 : decode code 221 = .ok (.aload_n 2, 1) := by decide +kernel
theorem d_L_law_222 : decode code 222 = .ok (.aload_n 0, 1) := by decide +kernel
theorem d_L_law_223 : decode code 223 = .ok (.iload 4, 2) := by decide +kernel
theorem d_L_law_225 : decode code 225 = .ok (.iconst 1, 1) := by decide +kernel
theorem d_L_law_226 : decode code 226 = .ok (.iadd, 1) := by decide +kernel
theorem d_L_law_227 : decode code 227 = .ok (.iaload, 1) := by decide +kernel
theorem d_L_law_228 : decode code 228 = .ok (.invokevirtual 78, 3) := by decide +kernel
theorem d_L_law_231 : decode code 231 = .ok (.pop, 1) := by decide +kernel
theorem d_L_law_232 : decode code 232 = .ok (.goto 369, 3) := by decide +kernel
theorem d_L_law_235 : decode code 235 = .ok (.aload_n 1, 1) := by decide +kernel
theorem d_L_law_236 : decode code 236 = .ok (.aload_n 0, 1) := by decide +kernel
theorem d_L_law_237 : decode code 237 = .ok (.iload 4, 2) := by decide +kernel
theorem d_L_law_239 : decode code 239 = .ok (.iconst 1, 1) := by decide +kernel
theorem d_L_law_240 : decode code 240 = .ok (.iadd, 1) := by decide +kernel
theorem d_L_law_241 : decode code 241 = .ok (.iaload, 1) := by decide +kernel
theorem d_L_law_242 : decode code 242 = .ok (.aload_n 0, 1) := by decide +kernel
theorem d_L_law_243 : decode code 243 = .ok (.iload 4, 2) := by decide +kernel
theorem d_L_law_245 : decode code 245 = .ok (.iconst 2, 1) := by decide +kernel
theorem d_L_law_246 : decode code 246 = .ok (.iadd, 1) := by decide +kernel
theorem d_L_law_247 : decode code 247 = .ok (.iaload, 1) := by decide +kernel
theorem d_L_law_248 : decode code 248 = .ok (.invokevirtual 79, 3) := by decide +kernel
theorem d_L_law_251 : decode code 251 = .ok (.pop, 1) := by decide +kernel
theorem d_L_law_252 : decode code 252 = .ok (.aload_n 2, 1) := by decide +kernel
theorem d_L_law_253 : decode code 253 = .ok (.aload_n 0, 1) := by decide +kernel
theorem d_L_law_254 : decode code 254 = .ok (.iload 4, 2) := by decide +kernel
theorem d_L_law_256 : decode code 256 = .ok (.iconst 1, 1) := by decide +kernel
theorem d_L_law_257 : decode code 257 = .ok (.iadd, 1) := by decide +kernel
theorem d_L_law_258 : decode code 258 = .ok (.iaload, 1) := by decide +kernel
theorem d_L_law_259 : decode code 259 = .ok (.aload_n 0, 1) := by decide +kernel
theorem d_L_law_260 : decode code 260 = .ok (.iload 4, 2) := by decide +kernel
theorem d_L_law_262 : decode code 262 = .ok (.iconst 2, 1) := by decide +kernel
theorem d_L_law_263 : decode code 263 = .ok (.iadd, 1) := by decide +kernel
theorem d_L_law_264 : decode code 264 = .ok (.iaload, 1) := by decide +kernel
theorem d_L_law_265 : decode code 265 = .ok (.invokevirtual 83, 3) := by decide +kernel
theorem d_L_law_268 : decode code 268 = .ok (.pop, 1) := by decide +kernel
theorem d_L_law_269 : decode code 269 = .ok (.goto 332, 3) := by decide +kernel
theorem d_L_law_272 : decode code 272 = .ok (.aload_n 1, 1) := by decide +kernel
theorem d_L_law_273 : decode code 273 = .ok (.aload_n 0, 1) := by decide +kernel
theorem d_L_law_274 : decode code 274 = .ok (.iload 4, 2) := by decide +kernel
theorem d_L_law_276 : decode code 276 = .ok (.iconst 1, 1) := by decide +kernel
theorem d_L_law_277 : decode code 277 = .ok (.iadd, 1) := by decide +kernel
theorem d_L_law_278 : decode code 278 = .ok (.iaload, 1) := by decide +kernel
theorem d_L_law_279 : decode code 279 = .ok (.aload_n 0, 1) := by decide +kernel
theorem d_L_law_280 : decode code 280 = .ok (.iload 4, 2) := by decide +kernel
theorem d_L_law_282 : decode code 282 = .ok (.iconst 2, 1) := by decide +kernel
theorem d_L_law_283 : decode code 283 = .ok (.iadd, 1) := by decide +kernel
theorem d_L_law_284 : decode code 284 = .ok (.iaload, 1) := by decide +kernel
theorem d_L_law_285 : decode code 285 = .ok (.aload_n 3, 1) := by decide +kernel
theorem d_L_law_286 : decode code 286 = .ok (.invokestatic 84, 3) := by decide +kernel
theorem d_L_law_289 : decode code 289 = .ok (.istore 5, 2) := by decide +kernel
theorem d_L_law_291 : decode code 291 = .ok (.aload_n 2, 1) := by decide +kernel
theorem d_L_law_292 : decode code 292 = .ok (.aload_n 0, 1) := by decide +kernel
theorem d_L_law_293 : decode code 293 = .ok (.iload 4, 2) := by decide +kernel
theorem d_L_law_295 : decode code 295 = .ok (.iconst 1, 1) := by decide +kernel
theorem d_L_law_296 : decode code 296 = .ok (.iadd, 1) := by decide +kernel
theorem d_L_law_297 : decode code 297 = .ok (.iaload, 1) := by decide +kernel
theorem d_L_law_298 : decode code 298 = .ok (.aload_n 0, 1) := by decide +kernel
theorem d_L_law_299 : decode code 299 = .ok (.iload 4, 2) := by decide +kernel
theorem d_L_law_301 : decode code 301 = .ok (.iconst 2, 1) := by decide +kernel
theorem d_L_law_302 : decode code 302 = .ok (.iadd, 1) := by decide +kernel
theorem d_L_law_303 : decode code 303 = .ok (.iaload, 1) := by decide +kernel
theorem d_L_law_304 : decode code 304 = .ok (.invokevirtual 87, 3) := by decide +kernel
theorem d_L_law_307 : decode code 307 = .ok (.lstore 6, 2) := by decide +kernel
theorem d_L_law_309 : decode code 309 = .ok (.goto 292, 3) := by decide +kernel
theorem d_L_law_312 : decode code 312 = .ok (.aload_n 1, 1) := by decide +kernel
theorem d_L_law_313 : decode code 313 = .ok (.aload_n 0, 1) := by decide +kernel
theorem d_L_law_314 : decode code 314 = .ok (.iload 4, 2) := by decide +kernel
theorem d_L_law_316 : decode code 316 = .ok (.iconst 1, 1) := by decide +kernel
theorem d_L_law_317 : decode code 317 = .ok (.iadd, 1) := by decide +kernel
theorem d_L_law_318 : decode code 318 = .ok (.iaload, 1) := by decide +kernel
theorem d_L_law_319 : decode code 319 = .ok (.aload_n 0, 1) := by decide +kernel
theorem d_L_law_320 : decode code 320 = .ok (.iload 4, 2) := by decide +kernel
theorem d_L_law_322 : decode code 322 = .ok (.iconst 2, 1) := by decide +kernel
theorem d_L_law_323 : decode code 323 = .ok (.iadd, 1) := by decide +kernel
theorem d_L_law_324 : decode code 324 = .ok (.iaload, 1) := by decide +kernel
theorem d_L_law_325 : decode code 325 = .ok (.i2l, 1) := by decide +kernel
theorem d_L_law_326 : decode code 326 = .ok (.bipush 32, 2) := by decide +kernel
theorem d_L_law_328 : decode code 328 = .ok (.lshl, 1) := by decide +kernel
theorem d_L_law_329 : decode code 329 = .ok (.aload_n 0, 1) := by decide +kernel
theorem d_L_law_330 : decode code 330 = .ok (.iload 4, 2) := by decide +kernel
theorem d_L_law_332 : decode code 332 = .ok (.iconst 3, 1) := by decide +kernel
theorem d_L_law_333 : decode code 333 = .ok (.iadd, 1) := by decide +kernel
theorem d_L_law_334 : decode code 334 = .ok (.iaload, 1) := by decide +kernel
theorem d_L_law_335 : decode code 335 = .ok (.i2l, 1) := by decide +kernel
theorem d_L_law_336 : decode code 336 = .ok (.ldc2_w 88, 3) := by decide +kernel
theorem d_L_law_339 : decode code 339 = .ok (.land, 1) := by decide +kernel
theorem d_L_law_340 : decode code 340 = .ok (.lor, 1) := by decide +kernel
theorem d_L_law_341 : decode code 341 = .ok (.aload_n 0, 1) := by decide +kernel
theorem d_L_law_342 : decode code 342 = .ok (.iload 4, 2) := by decide +kernel
theorem d_L_law_344 : decode code 344 = .ok (.iconst 4, 1) := by decide +kernel
theorem d_L_law_345 : decode code 345 = .ok (.iadd, 1) := by decide +kernel
theorem d_L_law_346 : decode code 346 = .ok (.iaload, 1) := by decide +kernel
theorem d_L_law_347 : decode code 347 = .ok (.aload_n 3, 1) := by decide +kernel
theorem d_L_law_348 : decode code 348 = .ok (.invokestatic 90, 3) := by decide +kernel
theorem d_L_law_351 : decode code 351 = .ok (.istore 5, 2) := by decide +kernel
theorem d_L_law_353 : decode code 353 = .ok (.aload_n 2, 1) := by decide +kernel
theorem d_L_law_354 : decode code 354 = .ok (.aload_n 0, 1) := by decide +kernel
theorem d_L_law_355 : decode code 355 = .ok (.iload 4, 2) := by decide +kernel
theorem d_L_law_357 : decode code 357 = .ok (.iconst 1, 1) := by decide +kernel
theorem d_L_law_358 : decode code 358 = .ok (.iadd, 1) := by decide +kernel
theorem d_L_law_359 : decode code 359 = .ok (.iaload, 1) := by decide +kernel
theorem d_L_law_360 : decode code 360 = .ok (.aload_n 0, 1) := by decide +kernel
theorem d_L_law_361 : decode code 361 = .ok (.iload 4, 2) := by decide +kernel
theorem d_L_law_363 : decode code 363 = .ok (.iconst 2, 1) := by decide +kernel
theorem d_L_law_364 : decode code 364 = .ok (.iadd, 1) := by decide +kernel
theorem d_L_law_365 : decode code 365 = .ok (.iaload, 1) := by decide +kernel
theorem d_L_law_366 : decode code 366 = .ok (.i2l, 1) := by decide +kernel
theorem d_L_law_367 : decode code 367 = .ok (.bipush 32, 2) := by decide +kernel
theorem d_L_law_369 : decode code 369 = .ok (.lshl, 1) := by decide +kernel
theorem d_L_law_370 : decode code 370 = .ok (.aload_n 0, 1) := by decide +kernel
theorem d_L_law_371 : decode code 371 = .ok (.iload 4, 2) := by decide +kernel
theorem d_L_law_373 : decode code 373 = .ok (.iconst 3, 1) := by decide +kernel
theorem d_L_law_374 : decode code 374 = .ok (.iadd, 1) := by decide +kernel
theorem d_L_law_375 : decode code 375 = .ok (.iaload, 1) := by decide +kernel
theorem d_L_law_376 : decode code 376 = .ok (.i2l, 1) := by decide +kernel
theorem d_L_law_377 : decode code 377 = .ok (.ldc2_w 88, 3) := by decide +kernel
theorem d_L_law_380 : decode code 380 = .ok (.land, 1) := by decide +kernel
theorem d_L_law_381 : decode code 381 = .ok (.lor, 1) := by decide +kernel
theorem d_L_law_382 : decode code 382 = .ok (.aload_n 0, 1) := by decide +kernel
theorem d_L_law_383 : decode code 383 = .ok (.iload 4, 2) := by decide +kernel
theorem d_L_law_385 : decode code 385 = .ok (.iconst 4, 1) := by decide +kernel
theorem d_L_law_386 : decode code 386 = .ok (.iadd, 1) := by decide +kernel
theorem d_L_law_387 : decode code 387 = .ok (.iaload, 1) := by decide +kernel
theorem d_L_law_388 : decode code 388 = .ok (.invokevirtual 93, 3) := by decide +kernel
theorem d_L_law_391 : decode code 391 = .ok (.istore 6, 2) := by decide +kernel
theorem d_L_law_393 : decode code 393 = .ok (.goto 208, 3) := by decide +kernel
theorem d_L_law_396 : decode code 396 = .ok (.aload_n 1, 1) := by decide +kernel
theorem d_L_law_397 : decode code 397 = .ok (.aload_n 0, 1) := by decide +kernel
theorem d_L_law_398 : decode code 398 = .ok (.iload 4, 2) := by decide +kernel
theorem d_L_law_400 : decode code 400 = .ok (.iconst 1, 1) := by decide +kernel
theorem d_L_law_401 : decode code 401 = .ok (.iadd, 1) := by decide +kernel
theorem d_L_law_402 : decode code 402 = .ok (.iaload, 1) := by decide +kernel
theorem d_L_law_403 : decode code 403 = .ok (.aload_n 0, 1) := by decide +kernel
theorem d_L_law_404 : decode code 404 = .ok (.iload 4, 2) := by decide +kernel
theorem d_L_law_406 : decode code 406 = .ok (.iconst 2, 1) := by decide +kernel
theorem d_L_law_407 : decode code 407 = .ok (.iadd, 1) := by decide +kernel
theorem d_L_law_408 : decode code 408 = .ok (.iaload, 1) := by decide +kernel
theorem d_L_law_409 : decode code 409 = .ok (.aload_n 3, 1) := by decide +kernel
theorem d_L_law_410 : decode code 410 = .ok (.invokestatic 94, 3) := by decide +kernel
theorem d_L_law_413 : decode code 413 = .ok (.istore 5, 2) := by decide +kernel
theorem d_L_law_415 : decode code 415 = .ok (.aload_n 2, 1) := by decide +kernel
theorem d_L_law_416 : decode code 416 = .ok (.aload_n 0, 1) := by decide +kernel
theorem d_L_law_417 : decode code 417 = .ok (.iload 4, 2) := by decide +kernel
theorem d_L_law_419 : decode code 419 = .ok (.iconst 1, 1) := by decide +kernel
theorem d_L_law_420 : decode code 420 = .ok (.iadd, 1) := by decide +kernel
theorem d_L_law_421 : decode code 421 = .ok (.iaload, 1) := by decide +kernel
theorem d_L_law_422 : decode code 422 = .ok (.aload_n 0, 1) := by decide +kernel
theorem d_L_law_423 : decode code 423 = .ok (.iload 4, 2) := by decide +kernel
theorem d_L_law_425 : decode code 425 = .ok (.iconst 2, 1) := by decide +kernel
theorem d_L_law_426 : decode code 426 = .ok (.iadd, 1) := by decide +kernel
theorem d_L_law_427 : decode code 427 = .ok (.iaload, 1) := by decide +kernel
theorem d_L_law_428 : decode code 428 = .ok (.invokevirtual 96, 3) := by decide +kernel
theorem d_L_law_431 : decode code 431 = .ok (.istore 6, 2) := by decide +kernel
theorem d_L_law_433 : decode code 433 = .ok (.goto 168, 3) := by decide +kernel
theorem d_L_law_436 : decode code 436 = .ok (.aload_n 1, 1) := by decide +kernel
theorem d_L_law_437 : decode code 437 = .ok (.aload_n 0, 1) := by decide +kernel
theorem d_L_law_438 : decode code 438 = .ok (.iload 4, 2) := by decide +kernel
theorem d_L_law_440 : decode code 440 = .ok (.iconst 1, 1) := by decide +kernel
theorem d_L_law_441 : decode code 441 = .ok (.iadd, 1) := by decide +kernel
theorem d_L_law_442 : decode code 442 = .ok (.iaload, 1) := by decide +kernel
theorem d_L_law_443 : decode code 443 = .ok (.invokevirtual 97, 3) := by decide +kernel
theorem d_L_law_446 : decode code 446 = .ok (.pop, 1) := by decide +kernel
theorem d_L_law_447 : decode code 447 = .ok (.aload_n 2, 1) := by decide +kernel
theorem d_L_law_448 : decode code 448 = .ok (.aload_n 0, 1) := by decide +kernel
theorem d_L_law_449 : decode code 449 = .ok (.iload 4, 2) := by decide +kernel
theorem d_L_law_451 : decode code 451 = .ok (.iconst 1, 1) := by decide +kernel
theorem d_L_law_452 : decode code 452 = .ok (.iadd, 1) := by decide +kernel
theorem d_L_law_453 : decode code 453 = .ok (.iaload, 1) := by decide +kernel
theorem d_L_law_454 : decode code 454 = .ok (.invokevirtual 100, 3) := by decide +kernel
theorem d_L_law_457 : decode code 457 = .ok (.pop, 1) := by decide +kernel
theorem d_L_law_458 : decode code 458 = .ok (.goto 143, 3) := by decide +kernel
theorem d_L_law_461 : decode code 461 = .ok (.aload_n 1, 1) := by decide +kernel
theorem d_L_law_462 : decode code 462 = .ok (.invokevirtual 101, 3) := by decide +kernel
theorem d_L_law_465 : decode code 465 = .ok (.pop, 1) := by decide +kernel
theorem d_L_law_466 : decode code 466 = .ok (.aload_n 2, 1) := by decide +kernel
theorem d_L_law_467 : decode code 467 = .ok (.invokevirtual 105, 3) := by decide +kernel
theorem d_L_law_470 : decode code 470 = .ok (.pop, 1) := by decide +kernel
theorem d_L_law_471 : decode code 471 = .ok (.goto 130, 3) := by decide +kernel
theorem d_L_law_474 : decode code 474 = .ok (.aload_n 1, 1) := by decide +kernel
theorem d_L_law_475 : decode code 475 = .ok (.aload_n 3, 1) := by decide +kernel
theorem d_L_law_476 : decode code 476 = .ok (.invokestatic 106, 3) := by decide +kernel
theorem d_L_law_479 : decode code 479 = .ok (.istore 5, 2) := by decide +kernel
theorem d_L_law_481 : decode code 481 = .ok (.aload_n 2, 1) := by decide +kernel
theorem d_L_law_482 : decode code 482 = .ok (.invokevirtual 108, 3) := by decide +kernel
theorem d_L_law_485 : decode code 485 = .ok (.istore 6, 2) := by decide +kernel
theorem d_L_law_487 : decode code 487 = .ok (.goto 114, 3) := by decide +kernel
theorem d_L_law_490 : decode code 490 = .ok (.aload_n 1, 1) := by decide +kernel
theorem d_L_law_491 : decode code 491 = .ok (.aload_n 0, 1) := by decide +kernel
theorem d_L_law_492 : decode code 492 = .ok (.iload 4, 2) := by decide +kernel
theorem d_L_law_494 : decode code 494 = .ok (.iconst 1, 1) := by decide +kernel
theorem d_L_law_495 : decode code 495 = .ok (.iadd, 1) := by decide +kernel
theorem d_L_law_496 : decode code 496 = .ok (.iaload, 1) := by decide +kernel
theorem d_L_law_497 : decode code 497 = .ok (.aload_n 0, 1) := by decide +kernel
theorem d_L_law_498 : decode code 498 = .ok (.iload 4, 2) := by decide +kernel
theorem d_L_law_500 : decode code 500 = .ok (.iconst 2, 1) := by decide +kernel
theorem d_L_law_501 : decode code 501 = .ok (.iadd, 1) := by decide +kernel
theorem d_L_law_502 : decode code 502 = .ok (.iaload, 1) := by decide +kernel
theorem d_L_law_503 : decode code 503 = .ok (.invokevirtual 109, 3) := by decide +kernel
theorem d_L_law_506 : decode code 506 = .ok (.pop, 1) := by decide +kernel
theorem d_L_law_507 : decode code 507 = .ok (.aload_n 2, 1) := by decide +kernel
theorem d_L_law_508 : decode code 508 = .ok (.aload_n 0, 1) := by decide +kernel
theorem d_L_law_509 : decode code 509 = .ok (.iload 4, 2) := by decide +kernel
theorem d_L_law_511 : decode code 511 = .ok (.iconst 1, 1) := by decide +kernel
