theorem d_V_write_183 : decode prog_1_method_10_code 183 = .ok (.iload_n 1, 1) := by decide +kernel
theorem d_V_write_184 : decode prog_1_method_10_code 184 = .ok (.iload 5, 2) := by decide +kernel
theorem d_V_write_186 : decode prog_1_method_10_code 186 = .ok (.iload 7, 2) := by decide +kernel
theorem d_V_write_188 : decode prog_1_method_10_code 188 = .ok (.iadd, 1) := by decide +kernel
theorem d_V_write_189 : decode prog_1_method_10_code 189 = .ok (.invokevirtual 182, 3) := by decide +kernel
theorem d_V_write_192 : decode prog_1_method_10_code 192 = .ok (.iload 7, 2) := by decide +kernel
theorem d_V_write_194 : decode prog_1_method_10_code 194 = .ok (.ireturn, 1) := by decide +kernel
theorem d_Folder_indexOfNamed_0 : decode prog_3_method_13_code 0 = .ok (.iconst 0, 1) := by decide +kernel
theorem d_Folder_indexOfNamed_1 : decode prog_3_method_13_code 1 = .ok (.istore_n 2, 1) := by decide +kernel
theorem d_Folder_indexOfNamed_2 : decode prog_3_method_13_code 2 = .ok (.iconst 0, 1) := by decide +kernel
theorem d_Folder_indexOfNamed_3 : decode prog_3_method_13_code 3 = .ok (.istore_n 3, 1) := by decide +kernel
theorem d_Folder_indexOfNamed_4 : decode prog_3_method_13_code 4 = .ok (.iload_n 3, 1) := by decide +kernel
theorem d_Folder_indexOfNamed_5 : decode prog_3_method_13_code 5 = .ok (.aload_n 0, 1) := by decide +kernel
theorem d_Folder_indexOfNamed_6 : decode prog_3_method_13_code 6 = .ok (.getfield 23, 3) := by decide +kernel
theorem d_Folder_indexOfNamed_9 : decode prog_3_method_13_code 9 = .ok (.if_icmp .ge 27, 3) := by decide +kernel
theorem d_Folder_indexOfNamed_12 : decode prog_3_method_13_code 12 = .ok (.aload_n 0, 1) := by decide +kernel
theorem d_Folder_indexOfNamed_13 : decode prog_3_method_13_code 13 = .ok (.iload_n 3, 1) := by decide +kernel
theorem d_Folder_indexOfNamed_14 : decode prog_3_method_13_code 14 = .ok (.invokevirtual 61, 3) := by decide +kernel
theorem d_Folder_indexOfNamed_17 : decode prog_3_method_13_code 17 = .ok (.ifCond .eq 13, 3) := by decide +kernel
theorem d_Folder_indexOfNamed_20 : decode prog_3_method_13_code 20 = .ok (.iload_n 2, 1) := by decide +kernel
theorem d_Folder_indexOfNamed_21 : decode prog_3_method_13_code 21 = .ok (.iload_n 1, 1) := by decide +kernel
theorem d_Folder_indexOfNamed_22 : decode prog_3_method_13_code 22 = .ok (.if_icmp .ne 5, 3) := by decide +kernel
theorem d_Folder_indexOfNamed_25 : decode prog_3_method_13_code 25 = .ok (.iload_n 3, 1) := by decide +kernel
theorem d_Folder_indexOfNamed_26 : decode prog_3_method_13_code 26 = .ok (.ireturn, 1) := by decide +kernel
theorem d_Folder_indexOfNamed_27 : decode prog_3_method_13_code 27 = .ok (.iinc 2 1, 3) := by decide +kernel
theorem d_Folder_indexOfNamed_30 : decode prog_3_method_13_code 30 = .ok (.iinc 3 1, 3) := by decide +kernel
theorem d_Folder_indexOfNamed_33 : decode prog_3_method_13_code 33 = .ok (.goto (-29), 3) := by decide +kernel
theorem d_Folder_indexOfNamed_36 : decode prog_3_method_13_code 36 = .ok (.iconst (-1), 1) := by decide +kernel
theorem d_Folder_indexOfNamed_37 : decode prog_3_method_13_code 37 = .ok (.ireturn, 1) := by decide +kernel
theorem d_V_canBeListed_0 : decode prog_1_method_27_code 0 = .ok (.iload_n 0, 1) := by decide +kernel
theorem d_V_canBeListed_1 : decode prog_1_method_27_code 1 = .ok (.ifCond .lt 8, 3) := by decide +kernel
theorem d_V_canBeListed_4 : decode prog_1_method_27_code 4 = .ok (.iload_n 0, 1) := by decide +kernel
theorem d_V_canBeListed_5 : decode prog_1_method_27_code 5 = .ok (.iconst 3, 1) := by decide +kernel
theorem d_V_canBeListed_6 : decode prog_1_method_27_code 6 = .ok (.if_icmp .le 27, 3) := by decide +kernel
theorem d_V_canBeListed_9 : decode prog_1_method_27_code 9 = .ok (.iload_n 0, 1) := by decide +kernel
theorem d_V_canBeListed_10 : decode prog_1_method_27_code 10 = .ok (.bipush 10, 2) := by decide +kernel
theorem d_V_canBeListed_12 : decode prog_1_method_27_code 12 = .ok (.if_icmp .lt 9, 3) := by decide +kernel
theorem d_V_canBeListed_15 : decode prog_1_method_27_code 15 = .ok (.iload_n 0, 1) := by decide +kernel
theorem d_V_canBeListed_16 : decode prog_1_method_27_code 16 = .ok (.bipush 16, 2) := by decide +kernel
theorem d_V_canBeListed_18 : decode prog_1_method_27_code 18 = .ok (.if_icmp .lt 15, 3) := by decide +kernel
theorem d_V_canBeListed_21 : decode prog_1_method_27_code 21 = .ok (.iload_n 0, 1) := by decide +kernel
theorem d_V_canBeListed_22 : decode prog_1_method_27_code 22 = .ok (.bipush 20, 2) := by decide +kernel
theorem d_V_canBeListed_24 : decode prog_1_method_27_code 24 = .ok (.if_icmp .lt 13, 3) := by decide +kernel
theorem d_V_canBeListed_27 : decode prog_1_method_27_code 27 = .ok (.iload_n 0, 1) := by decide +kernel
theorem d_V_canBeListed_28 : decode prog_1_method_27_code 28 = .ok (.bipush 46, 2) := by decide +kernel
theorem d_V_canBeListed_30 : decode prog_1_method_27_code 30 = .ok (.if_icmp .ge 7, 3) := by decide +kernel
theorem d_V_canBeListed_33 : decode prog_1_method_27_code 33 = .ok (.iconst 1, 1) := by decide +kernel
theorem d_V_canBeListed_34 : decode prog_1_method_27_code 34 = .ok (.goto 4, 3) := by decide +kernel
theorem d_V_canBeListed_37 : decode prog_1_method_27_code 37 = .ok (.iconst 0, 1) := by decide +kernel
theorem d_V_canBeListed_38 : decode prog_1_method_27_code 38 = .ok (.ireturn, 1) := by decide +kernel
theorem d_Folder_shortCharOf_0 : decode prog_3_method_21_code 0 = .ok (.iload_n 2, 1) := by decide +kernel
theorem d_Folder_shortCharOf_1 : decode prog_3_method_21_code 1 = .ok (.aload_n 0, 1) := by decide +kernel
theorem d_Folder_shortCharOf_2 : decode prog_3_method_21_code 2 = .ok (.iload_n 1, 1) := by decide +kernel
theorem d_Folder_shortCharOf_3 : decode prog_3_method_21_code 3 = .ok (.invokevirtual 81, 3) := by decide +kernel
theorem d_Folder_shortCharOf_6 : decode prog_3_method_21_code 6 = .ok (.if_icmp .ge 12, 3) := by decide +kernel
theorem d_Folder_shortCharOf_9 : decode prog_3_method_21_code 9 = .ok (.aload_n 0, 1) := by decide +kernel
theorem d_Folder_shortCharOf_10 : decode prog_3_method_21_code 10 = .ok (.iload_n 1, 1) := by decide +kernel
theorem d_Folder_shortCharOf_11 : decode prog_3_method_21_code 11 = .ok (.iload_n 2, 1) := by decide +kernel
theorem d_Folder_shortCharOf_12 : decode prog_3_method_21_code 12 = .ok (.invokevirtual 51, 3) := by decide +kernel
theorem d_Folder_shortCharOf_15 : decode prog_3_method_21_code 15 = .ok (.goto 4, 3) := by decide +kernel
theorem d_Folder_shortCharOf_18 : decode prog_3_method_21_code 18 = .ok (.iconst (-1), 1) := by decide +kernel
theorem d_Folder_shortCharOf_19 : decode prog_3_method_21_code 19 = .ok (.ireturn, 1) := by decide +kernel
theorem d_Folder_longCharOf_0 : decode prog_3_method_28_code 0 = .ok (.iload_n 2, 1) := by decide +kernel
theorem d_Folder_longCharOf_1 : decode prog_3_method_28_code 1 = .ok (.aload_n 0, 1) := by decide +kernel
theorem d_Folder_longCharOf_2 : decode prog_3_method_28_code 2 = .ok (.iload_n 1, 1) := by decide +kernel
theorem d_Folder_longCharOf_3 : decode prog_3_method_28_code 3 = .ok (.aload_n 0, 1) := by decide +kernel
theorem d_Folder_longCharOf_4 : decode prog_3_method_28_code 4 = .ok (.iload_n 1, 1) := by decide +kernel
theorem d_Folder_longCharOf_5 : decode prog_3_method_28_code 5 = .ok (.invokevirtual 74, 3) := by decide +kernel
theorem d_Folder_longCharOf_8 : decode prog_3_method_28_code 8 = .ok (.invokevirtual 95, 3) := by decide +kernel
theorem d_Folder_longCharOf_11 : decode prog_3_method_28_code 11 = .ok (.if_icmp .ge 12, 3) := by decide +kernel
theorem d_Folder_longCharOf_14 : decode prog_3_method_28_code 14 = .ok (.aload_n 0, 1) := by decide +kernel
theorem d_Folder_longCharOf_15 : decode prog_3_method_28_code 15 = .ok (.iload_n 1, 1) := by decide +kernel
theorem d_Folder_longCharOf_16 : decode prog_3_method_28_code 16 = .ok (.iload_n 2, 1) := by decide +kernel
theorem d_Folder_longCharOf_17 : decode prog_3_method_28_code 17 = .ok (.invokevirtual 98, 3) := by decide +kernel
theorem d_Folder_longCharOf_20 : decode prog_3_method_28_code 20 = .ok (.goto 4, 3) := by decide +kernel
theorem d_Folder_longCharOf_23 : decode prog_3_method_28_code 23 = .ok (.iconst (-1), 1) := by decide +kernel
theorem d_Folder_longCharOf_24 : decode prog_3_method_28_code 24 = .ok (.ireturn, 1) := by decide +kernel
theorem d_Folder_sizeOf_0 : decode prog_3_method_9_code 0 = .ok (.aload_n 0, 1) := by decide +kernel
theorem d_Folder_sizeOf_1 : decode prog_3_method_9_code 1 = .ok (.iload_n 1, 1) := by decide +kernel
theorem d_Folder_sizeOf_2 : decode prog_3_method_9_code 2 = .ok (.bipush 10, 2) := by decide +kernel
theorem d_Folder_sizeOf_4 : decode prog_3_method_9_code 4 = .ok (.invokevirtual 55, 3) := by decide +kernel
theorem d_Folder_sizeOf_7 : decode prog_3_method_9_code 7 = .ok (.ireturn, 1) := by decide +kernel
theorem d_V_list_0 : decode prog_1_method_11_code 0 = .ok (.aload_n 0, 1) := by decide +kernel
theorem d_V_list_1 : decode prog_1_method_11_code 1 = .ok (.invokevirtual 70, 3) := by decide +kernel
theorem d_V_list_4 : decode prog_1_method_11_code 4 = .ok (.aload_n 0, 1) := by decide +kernel
theorem d_V_list_5 : decode prog_1_method_11_code 5 = .ok (.getfield 39, 3) := by decide +kernel
theorem d_V_list_8 : decode prog_1_method_11_code 8 = .ok (.aload_n 0, 1) := by decide +kernel
theorem d_V_list_9 : decode prog_1_method_11_code 9 = .ok (.getfield 12, 3) := by decide +kernel
theorem d_V_list_12 : decode prog_1_method_11_code 12 = .ok (.getfield 87, 3) := by decide +kernel
theorem d_V_list_15 : decode prog_1_method_11_code 15 = .ok (.invokevirtual 91, 3) := by decide +kernel
theorem d_V_list_18 : decode prog_1_method_11_code 18 = .ok (.aload_n 0, 1) := by decide +kernel
theorem d_V_list_19 : decode prog_1_method_11_code 19 = .ok (.getfield 39, 3) := by decide +kernel
theorem d_V_list_22 : decode prog_1_method_11_code 22 = .ok (.iload_n 1, 1) := by decide +kernel
theorem d_V_list_23 : decode prog_1_method_11_code 23 = .ok (.invokevirtual 225, 3) := by decide +kernel
theorem d_V_list_26 : decode prog_1_method_11_code 26 = .ok (.istore_n 3, 1) := by decide +kernel
theorem d_V_list_27 : decode prog_1_method_11_code 27 = .ok (.iload_n 3, 1) := by decide +kernel
theorem d_V_list_28 : decode prog_1_method_11_code 28 = .ok (.iconst (-1), 1) := by decide +kernel
theorem d_V_list_29 : decode prog_1_method_11_code 29 = .ok (.if_icmp .ne 13, 3) := by decide +kernel
theorem d_V_list_32 : decode prog_1_method_11_code 32 = .ok (.new 128, 3) := by decide +kernel
theorem d_V_list_35 : decode prog_1_method_11_code 35 = .ok (.dup, 1) := by decide +kernel
theorem d_V_list_36 : decode prog_1_method_11_code 36 = .ok (.ldc 228, 2) := by decide +kernel
theorem d_V_list_38 : decode prog_1_method_11_code 38 = .ok (.invokespecial 132, 3) := by decide +kernel
theorem d_V_list_41 : decode prog_1_method_11_code 41 = .ok (.athrow, 1) := by decide +kernel
theorem d_V_list_42 : decode prog_1_method_11_code 42 = .ok (.iload_n 2, 1) := by decide +kernel
theorem d_V_list_43 : decode prog_1_method_11_code 43 = .ok (.invokestatic 230, 3) := by decide +kernel
theorem d_V_list_46 : decode prog_1_method_11_code 46 = .ok (.ifCond .ne 13, 3) := by decide +kernel
theorem d_V_list_49 : decode prog_1_method_11_code 49 = .ok (.new 233, 3) := by decide +kernel
theorem d_V_list_52 : decode prog_1_method_11_code 52 = .ok (.dup, 1) := by decide +kernel
theorem d_V_list_53 : decode prog_1_method_11_code 53 = .ok (.ldc 235, 2) := by decide +kernel
theorem d_V_list_55 : decode prog_1_method_11_code 55 = .ok (.invokespecial 237, 3) := by decide +kernel
theorem d_V_list_58 : decode prog_1_method_11_code 58 = .ok (.athrow, 1) := by decide +kernel
theorem d_V_list_59 : decode prog_1_method_11_code 59 = .ok (.iload_n 2, 1) := by decide +kernel
theorem d_V_list_60 : decode prog_1_method_11_code 60 = .ok (.tableswitch 76 0 3 #[32, 41, 50, 59], 32) := by decide +kernel
theorem d_V_list_92 : decode prog_1_method_11_code 92 = .ok (.aload_n 0, 1) := by decide +kernel
theorem d_V_list_93 : decode prog_1_method_11_code 93 = .ok (.getfield 39, 3) := by decide +kernel
theorem d_V_list_96 : decode prog_1_method_11_code 96 = .ok (.iload_n 3, 1) := by decide +kernel
theorem d_V_list_97 : decode prog_1_method_11_code 97 = .ok (.invokevirtual 238, 3) := by decide +kernel
theorem d_V_list_100 : decode prog_1_method_11_code 100 = .ok (.ireturn, 1) := by decide +kernel
theorem d_V_list_101 : decode prog_1_method_11_code 101 = .ok (.aload_n 0, 1) := by decide +kernel
theorem d_V_list_102 : decode prog_1_method_11_code 102 = .ok (.getfield 39, 3) := by decide +kernel
theorem d_V_list_105 : decode prog_1_method_11_code 105 = .ok (.iload_n 3, 1) := by decide +kernel
theorem d_V_list_106 : decode prog_1_method_11_code 106 = .ok (.invokevirtual 241, 3) := by decide +kernel
theorem d_V_list_109 : decode prog_1_method_11_code 109 = .ok (.ireturn, 1) := by decide +kernel
theorem d_V_list_110 : decode prog_1_method_11_code 110 = .ok (.aload_n 0, 1) := by decide +kernel
theorem d_V_list_111 : decode prog_1_method_11_code 111 = .ok (.getfield 39, 3) := by decide +kernel
theorem d_V_list_114 : decode prog_1_method_11_code 114 = .ok (.iload_n 3, 1) := by decide +kernel
theorem d_V_list_115 : decode prog_1_method_11_code 115 = .ok (.invokevirtual 142, 3) := by decide +kernel
theorem d_V_list_118 : decode prog_1_method_11_code 118 = .ok (.ireturn, 1) := by decide +kernel
theorem d_V_list_119 : decode prog_1_method_11_code 119 = .ok (.aload_n 0, 1) := by decide +kernel
theorem d_V_list_120 : decode prog_1_method_11_code 120 = .ok (.getfield 39, 3) := by decide +kernel
theorem d_V_list_123 : decode prog_1_method_11_code 123 = .ok (.iload_n 3, 1) := by decide +kernel
theorem d_V_list_124 : decode prog_1_method_11_code 124 = .ok (.aload_n 0, 1) := by decide +kernel
theorem d_V_list_125 : decode prog_1_method_11_code 125 = .ok (.getfield 39, 3) := by decide +kernel
theorem d_V_list_128 : decode prog_1_method_11_code 128 = .ok (.iload_n 3, 1) := by decide +kernel
theorem d_V_list_129 : decode prog_1_method_11_code 129 = .ok (.invokevirtual 244, 3) := by decide +kernel
theorem d_V_list_132 : decode prog_1_method_11_code 132 = .ok (.invokevirtual 247, 3) := by decide +kernel
theorem d_V_list_135 : decode prog_1_method_11_code 135 = .ok (.ireturn, 1) := by decide +kernel
theorem d_V_list_136 : decode prog_1_method_11_code 136 = .ok (.iload_n 2, 1) := by decide +kernel
theorem d_V_list_137 : decode prog_1_method_11_code 137 = .ok (.bipush 20, 2) := by decide +kernel
theorem d_V_list_139 : decode prog_1_method_11_code 139 = .ok (.if_icmp .ge 18, 3) := by decide +kernel
theorem d_V_list_142 : decode prog_1_method_11_code 142 = .ok (.aload_n 0, 1) := by decide +kernel
theorem d_V_list_143 : decode prog_1_method_11_code 143 = .ok (.getfield 39, 3) := by decide +kernel
theorem d_V_list_146 : decode prog_1_method_11_code 146 = .ok (.iload_n 3, 1) := by decide +kernel
theorem d_V_list_147 : decode prog_1_method_11_code 147 = .ok (.iload_n 2, 1) := by decide +kernel
theorem d_V_list_148 : decode prog_1_method_11_code 148 = .ok (.bipush 10, 2) := by decide +kernel
theorem d_V_list_150 : decode prog_1_method_11_code 150 = .ok (.isub, 1) := by decide +kernel
theorem d_V_list_151 : decode prog_1_method_11_code 151 = .ok (.invokevirtual 250, 3) := by decide +kernel
theorem d_V_list_154 : decode prog_1_method_11_code 154 = .ok (.goto 15, 3) := by decide +kernel
theorem d_V_list_157 : decode prog_1_method_11_code 157 = .ok (.aload_n 0, 1) := by decide +kernel
theorem d_V_list_158 : decode prog_1_method_11_code 158 = .ok (.getfield 39, 3) := by decide +kernel
theorem d_V_list_161 : decode prog_1_method_11_code 161 = .ok (.iload_n 3, 1) := by decide +kernel
theorem d_V_list_162 : decode prog_1_method_11_code 162 = .ok (.iload_n 2, 1) := by decide +kernel
theorem d_V_list_163 : decode prog_1_method_11_code 163 = .ok (.bipush 20, 2) := by decide +kernel
theorem d_V_list_165 : decode prog_1_method_11_code 165 = .ok (.isub, 1) := by decide +kernel
theorem d_V_list_166 : decode prog_1_method_11_code 166 = .ok (.invokevirtual 253, 3) := by decide +kernel
theorem d_V_list_169 : decode prog_1_method_11_code 169 = .ok (.ireturn, 1) := by decide +kernel
theorem d_Disk_setCut_0 : decode prog_2_method_5_code 0 = .ok (.iload_n 1, 1) := by decide +kernel
theorem d_Disk_setCut_1 : decode prog_2_method_5_code 1 = .ok (.ifCond .lt 10, 3) := by decide +kernel
theorem d_Disk_setCut_4 : decode prog_2_method_5_code 4 = .ok (.aload_n 0, 1) := by decide +kernel
theorem d_Disk_setCut_5 : decode prog_2_method_5_code 5 = .ok (.getfield 19, 3) := by decide +kernel
theorem d_Disk_setCut_8 : decode prog_2_method_5_code 8 = .ok (.ifCond .ne 5, 3) := by decide +kernel
theorem d_Disk_setCut_11 : decode prog_2_method_5_code 11 = .ok (.iconst 0, 1) := by decide +kernel
theorem d_Disk_setCut_12 : decode prog_2_method_5_code 12 = .ok (.ireturn, 1) := by decide +kernel
theorem d_Disk_setCut_13 : decode prog_2_method_5_code 13 = .ok (.aload_n 0, 1) := by decide +kernel
theorem d_Disk_setCut_14 : decode prog_2_method_5_code 14 = .ok (.iconst 1, 1) := by decide +kernel
theorem d_Disk_setCut_15 : decode prog_2_method_5_code 15 = .ok (.putfield 23, 3) := by decide +kernel
theorem d_Disk_setCut_18 : decode prog_2_method_5_code 18 = .ok (.aload_n 0, 1) := by decide +kernel
theorem d_Disk_setCut_19 : decode prog_2_method_5_code 19 = .ok (.iload_n 1, 1) := by decide +kernel
theorem d_Disk_setCut_20 : decode prog_2_method_5_code 20 = .ok (.putfield 26, 3) := by decide +kernel
theorem d_Disk_setCut_23 : decode prog_2_method_5_code 23 = .ok (.iconst 1, 1) := by decide +kernel
theorem d_Disk_setCut_24 : decode prog_2_method_5_code 24 = .ok (.ireturn, 1) := by decide +kernel
theorem d_V_cut_0 : decode prog_1_method_12_code 0 = .ok (.aload_n 0, 1) := by decide +kernel
theorem d_V_cut_1 : decode prog_1_method_12_code 1 = .ok (.getfield 21, 3) := by decide +kernel
theorem d_V_cut_4 : decode prog_1_method_12_code 4 = .ok (.iload_n 1, 1) := by decide +kernel
theorem d_V_cut_5 : decode prog_1_method_12_code 5 = .ok (.invokevirtual 256, 3) := by decide +kernel
theorem d_V_cut_8 : decode prog_1_method_12_code 8 = .ok (.ireturn, 1) := by decide +kernel
theorem d_Disk_switchOn_0 : decode prog_2_method_6_code 0 = .ok (.aload_n 0, 1) := by decide +kernel
theorem d_Disk_switchOn_1 : decode prog_2_method_6_code 1 = .ok (.getfield 19, 3) := by decide +kernel
theorem d_Disk_switchOn_4 : decode prog_2_method_6_code 4 = .ok (.ifCond .ne 7, 3) := by decide +kernel
theorem d_Disk_switchOn_7 : decode prog_2_method_6_code 7 = .ok (.iconst 1, 1) := by decide +kernel
theorem d_Disk_switchOn_8 : decode prog_2_method_6_code 8 = .ok (.goto 4, 3) := by decide +kernel
theorem d_Disk_switchOn_11 : decode prog_2_method_6_code 11 = .ok (.iconst 0, 1) := by decide +kernel
theorem d_Disk_switchOn_12 : decode prog_2_method_6_code 12 = .ok (.istore_n 1, 1) := by decide +kernel
theorem d_Disk_switchOn_13 : decode prog_2_method_6_code 13 = .ok (.aload_n 0, 1) := by decide +kernel
theorem d_Disk_switchOn_14 : decode prog_2_method_6_code 14 = .ok (.iconst 1, 1) := by decide +kernel
theorem d_Disk_switchOn_15 : decode prog_2_method_6_code 15 = .ok (.putfield 19, 3) := by decide +kernel
theorem d_Disk_switchOn_18 : decode prog_2_method_6_code 18 = .ok (.iload_n 1, 1) := by decide +kernel
theorem d_Disk_switchOn_19 : decode prog_2_method_6_code 19 = .ok (.ireturn, 1) := by decide +kernel
theorem d_V_power_0 : decode prog_1_method_13_code 0 = .ok (.aload_n 0, 1) := by decide +kernel
theorem d_V_power_1 : decode prog_1_method_13_code 1 = .ok (.getfield 21, 3) := by decide +kernel
theorem d_V_power_4 : decode prog_1_method_13_code 4 = .ok (.invokevirtual 259, 3) := by decide +kernel
theorem d_V_power_7 : decode prog_1_method_13_code 7 = .ok (.ireturn, 1) := by decide +kernel
theorem d_Table_secondCell_0 : decode prog_7_method_3_code 0 = .ok (.aload_n 0, 1) := by decide +kernel
theorem d_Table_secondCell_1 : decode prog_7_method_3_code 1 = .ok (.getfield 9, 3) := by decide +kernel
theorem d_Table_secondCell_4 : decode prog_7_method_3_code 4 = .ok (.sipush 128, 3) := by decide +kernel
theorem d_Table_secondCell_7 : decode prog_7_method_3_code 7 = .ok (.iconst 2, 1) := by decide +kernel
theorem d_Table_secondCell_8 : decode prog_7_method_3_code 8 = .ok (.iload_n 1, 1) := by decide +kernel
theorem d_Table_secondCell_9 : decode prog_7_method_3_code 9 = .ok (.imul, 1) := by decide +kernel
theorem d_Table_secondCell_10 : decode prog_7_method_3_code 10 = .ok (.iadd, 1) := by decide +kernel
theorem d_Table_secondCell_11 : decode prog_7_method_3_code 11 = .ok (.invokevirtual 15, 3) := by decide +kernel
theorem d_Table_secondCell_14 : decode prog_7_method_3_code 14 = .ok (.ireturn, 1) := by decide +kernel
theorem d_Table_setSecond_0 : decode prog_7_method_5_code 0 = .ok (.aload_n 0, 1) := by decide +kernel
theorem d_Table_setSecond_1 : decode prog_7_method_5_code 1 = .ok (.getfield 9, 3) := by decide +kernel
theorem d_Table_setSecond_4 : decode prog_7_method_5_code 4 = .ok (.sipush 128, 3) := by decide +kernel
theorem d_Table_setSecond_7 : decode prog_7_method_5_code 7 = .ok (.iconst 2, 1) := by decide +kernel
theorem d_Table_setSecond_8 : decode prog_7_method_5_code 8 = .ok (.iload_n 1, 1) := by decide +kernel
theorem d_Table_setSecond_9 : decode prog_7_method_5_code 9 = .ok (.imul, 1) := by decide +kernel
theorem d_Table_setSecond_10 : decode prog_7_method_5_code 10 = .ok (.iadd, 1) := by decide +kernel
theorem d_Table_setSecond_11 : decode prog_7_method_5_code 11 = .ok (.iload_n 2, 1) := by decide +kernel
theorem d_Table_setSecond_12 : decode prog_7_method_5_code 12 = .ok (.invokevirtual 21, 3) := by decide +kernel
theorem d_Table_setSecond_15 : decode prog_7_method_5_code 15 = .ok (.return_, 1) := by decide +kernel
theorem d_Rep_isBad_0 : decode prog_5_method_3_code 0 = .ok (.aload_n 0, 1) := by decide +kernel
theorem d_Rep_isBad_1 : decode prog_5_method_3_code 1 = .ok (.getfield 15, 3) := by decide +kernel
theorem d_Rep_isBad_4 : decode prog_5_method_3_code 4 = .ok (.iload_n 1, 1) := by decide +kernel
theorem d_Rep_isBad_5 : decode prog_5_method_3_code 5 = .ok (.invokevirtual 37, 3) := by decide +kernel
theorem d_Rep_isBad_8 : decode prog_5_method_3_code 8 = .ok (.istore_n 2, 1) := by decide +kernel
theorem d_Rep_isBad_9 : decode prog_5_method_3_code 9 = .ok (.iload_n 2, 1) := by decide +kernel
theorem d_Rep_isBad_10 : decode prog_5_method_3_code 10 = .ok (.ifCond .eq 10, 3) := by decide +kernel
theorem d_Rep_isBad_13 : decode prog_5_method_3_code 13 = .ok (.iload_n 2, 1) := by decide +kernel
theorem d_Rep_isBad_14 : decode prog_5_method_3_code 14 = .ok (.invokestatic 52, 3) := by decide +kernel
theorem d_Rep_isBad_17 : decode prog_5_method_3_code 17 = .ok (.ifCond .eq 7, 3) := by decide +kernel
theorem d_Rep_isBad_20 : decode prog_5_method_3_code 20 = .ok (.iconst 1, 1) := by decide +kernel
theorem d_Rep_isBad_21 : decode prog_5_method_3_code 21 = .ok (.goto 4, 3) := by decide +kernel
theorem d_Rep_isBad_24 : decode prog_5_method_3_code 24 = .ok (.iconst 0, 1) := by decide +kernel
theorem d_Rep_isBad_25 : decode prog_5_method_3_code 25 = .ok (.istore_n 3, 1) := by decide +kernel
theorem d_Rep_isBad_26 : decode prog_5_method_3_code 26 = .ok (.iload_n 2, 1) := by decide +kernel
theorem d_Rep_isBad_27 : decode prog_5_method_3_code 27 = .ok (.ldc 48, 2) := by decide +kernel
theorem d_Rep_isBad_29 : decode prog_5_method_3_code 29 = .ok (.if_icmp .eq 16, 3) := by decide +kernel
theorem d_Rep_isBad_32 : decode prog_5_method_3_code 32 = .ok (.iload_n 1, 1) := by decide +kernel
theorem d_Rep_isBad_33 : decode prog_5_method_3_code 33 = .ok (.iconst 2, 1) := by decide +kernel
theorem d_Rep_isBad_34 : decode prog_5_method_3_code 34 = .ok (.if_icmp .lt 7, 3) := by decide +kernel
theorem d_Rep_isBad_37 : decode prog_5_method_3_code 37 = .ok (.iload_n 3, 1) := by decide +kernel
theorem d_Rep_isBad_38 : decode prog_5_method_3_code 38 = .ok (.ifCond .ne 7, 3) := by decide +kernel
theorem d_Rep_isBad_41 : decode prog_5_method_3_code 41 = .ok (.iconst 1, 1) := by decide +kernel
theorem d_Rep_isBad_42 : decode prog_5_method_3_code 42 = .ok (.goto 4, 3) := by decide +kernel
theorem d_Rep_isBad_45 : decode prog_5_method_3_code 45 = .ok (.iconst 0, 1) := by decide +kernel
theorem d_Rep_isBad_46 : decode prog_5_method_3_code 46 = .ok (.ireturn, 1) := by decide +kernel
theorem d_Rep_mendTables_0 : decode prog_5_method_2_code 0 = .ok (.aload_n 0, 1) := by decide +kernel
theorem d_Rep_mendTables_1 : decode prog_5_method_2_code 1 = .ok (.iconst 0, 1) := by decide +kernel
theorem d_Rep_mendTables_2 : decode prog_5_method_2_code 2 = .ok (.putfield 27, 3) := by decide +kernel
theorem d_Rep_mendTables_5 : decode prog_5_method_2_code 5 = .ok (.iconst 0, 1) := by decide +kernel
theorem d_Rep_mendTables_6 : decode prog_5_method_2_code 6 = .ok (.istore_n 1, 1) := by decide +kernel
theorem d_Rep_mendTables_7 : decode prog_5_method_2_code 7 = .ok (.iload_n 1, 1) := by decide +kernel
theorem d_Rep_mendTables_8 : decode prog_5_method_2_code 8 = .ok (.bipush 64, 2) := by decide +kernel
theorem d_Rep_mendTables_10 : decode prog_5_method_2_code 10 = .ok (.if_icmp .ge 61, 3) := by decide +kernel
theorem d_Rep_mendTables_13 : decode prog_5_method_2_code 13 = .ok (.aload_n 0, 1) := by decide +kernel
theorem d_Rep_mendTables_14 : decode prog_5_method_2_code 14 = .ok (.getfield 23, 3) := by decide +kernel
theorem d_Rep_mendTables_17 : decode prog_5_method_2_code 17 = .ok (.iload_n 1, 1) := by decide +kernel
theorem d_Rep_mendTables_18 : decode prog_5_method_2_code 18 = .ok (.iconst 0, 1) := by decide +kernel
theorem d_Rep_mendTables_19 : decode prog_5_method_2_code 19 = .ok (.bastore, 1) := by decide +kernel
theorem d_Rep_mendTables_20 : decode prog_5_method_2_code 20 = .ok (.aload_n 0, 1) := by decide +kernel
theorem d_Rep_mendTables_21 : decode prog_5_method_2_code 21 = .ok (.getfield 15, 3) := by decide +kernel
theorem d_Rep_mendTables_24 : decode prog_5_method_2_code 24 = .ok (.iload_n 1, 1) := by decide +kernel
theorem d_Rep_mendTables_25 : decode prog_5_method_2_code 25 = .ok (.invokevirtual 31, 3) := by decide +kernel
theorem d_Rep_mendTables_28 : decode prog_5_method_2_code 28 = .ok (.aload_n 0, 1) := by decide +kernel
theorem d_Rep_mendTables_29 : decode prog_5_method_2_code 29 = .ok (.getfield 15, 3) := by decide +kernel
theorem d_Rep_mendTables_32 : decode prog_5_method_2_code 32 = .ok (.iload_n 1, 1) := by decide +kernel
theorem d_Rep_mendTables_33 : decode prog_5_method_2_code 33 = .ok (.invokevirtual 37, 3) := by decide +kernel
theorem d_Rep_mendTables_36 : decode prog_5_method_2_code 36 = .ok (.if_icmp .eq 29, 3) := by decide +kernel
theorem d_Rep_mendTables_39 : decode prog_5_method_2_code 39 = .ok (.aload_n 0, 1) := by decide +kernel
theorem d_Rep_mendTables_40 : decode prog_5_method_2_code 40 = .ok (.getfield 15, 3) := by decide +kernel
theorem d_Rep_mendTables_43 : decode prog_5_method_2_code 43 = .ok (.iload_n 1, 1) := by decide +kernel
theorem d_Rep_mendTables_44 : decode prog_5_method_2_code 44 = .ok (.aload_n 0, 1) := by decide +kernel
theorem d_Rep_mendTables_45 : decode prog_5_method_2_code 45 = .ok (.getfield 15, 3) := by decide +kernel
theorem d_Rep_mendTables_48 : decode prog_5_method_2_code 48 = .ok (.iload_n 1, 1) := by decide +kernel
theorem d_Rep_mendTables_49 : decode prog_5_method_2_code 49 = .ok (.invokevirtual 37, 3) := by decide +kernel
theorem d_Rep_mendTables_52 : decode prog_5_method_2_code 52 = .ok (.invokevirtual 40, 3) := by decide +kernel
theorem d_Rep_mendTables_55 : decode prog_5_method_2_code 55 = .ok (.aload_n 0, 1) := by decide +kernel
theorem d_Rep_mendTables_56 : decode prog_5_method_2_code 56 = .ok (.dup, 1) := by decide +kernel
theorem d_Rep_mendTables_57 : decode prog_5_method_2_code 57 = .ok (.getfield 27, 3) := by decide +kernel
theorem d_Rep_mendTables_60 : decode prog_5_method_2_code 60 = .ok (.iconst 1, 1) := by decide +kernel
theorem d_Rep_mendTables_61 : decode prog_5_method_2_code 61 = .ok (.iadd, 1) := by decide +kernel
theorem d_Rep_mendTables_62 : decode prog_5_method_2_code 62 = .ok (.putfield 27, 3) := by decide +kernel
theorem d_Rep_mendTables_65 : decode prog_5_method_2_code 65 = .ok (.iinc 1 1, 3) := by decide +kernel
theorem d_Rep_mendTables_68 : decode prog_5_method_2_code 68 = .ok (.goto (-61), 3) := by decide +kernel
theorem d_Rep_mendTables_71 : decode prog_5_method_2_code 71 = .ok (.iconst 0, 1) := by decide +kernel
theorem d_Rep_mendTables_72 : decode prog_5_method_2_code 72 = .ok (.istore_n 1, 1) := by decide +kernel
theorem d_Rep_mendTables_73 : decode prog_5_method_2_code 73 = .ok (.iload_n 1, 1) := by decide +kernel
theorem d_Rep_mendTables_74 : decode prog_5_method_2_code 74 = .ok (.bipush 64, 2) := by decide +kernel
theorem d_Rep_mendTables_76 : decode prog_5_method_2_code 76 = .ok (.if_icmp .ge 37, 3) := by decide +kernel
theorem d_Rep_mendTables_79 : decode prog_5_method_2_code 79 = .ok (.aload_n 0, 1) := by decide +kernel
theorem d_Rep_mendTables_80 : decode prog_5_method_2_code 80 = .ok (.iload_n 1, 1) := by decide +kernel
theorem d_Rep_mendTables_81 : decode prog_5_method_2_code 81 = .ok (.invokevirtual 44, 3) := by decide +kernel
theorem d_Rep_mendTables_84 : decode prog_5_method_2_code 84 = .ok (.ifCond .eq 23, 3) := by decide +kernel
theorem d_Rep_mendTables_87 : decode prog_5_method_2_code 87 = .ok (.aload_n 0, 1) := by decide +kernel
theorem d_Rep_mendTables_88 : decode prog_5_method_2_code 88 = .ok (.getfield 15, 3) := by decide +kernel
theorem d_Rep_mendTables_91 : decode prog_5_method_2_code 91 = .ok (.iload_n 1, 1) := by decide +kernel
theorem d_Rep_mendTables_92 : decode prog_5_method_2_code 92 = .ok (.ldc 48, 2) := by decide +kernel
theorem d_Rep_mendTables_94 : decode prog_5_method_2_code 94 = .ok (.invokevirtual 49, 3) := by decide +kernel
theorem d_Rep_mendTables_97 : decode prog_5_method_2_code 97 = .ok (.aload_n 0, 1) := by decide +kernel
theorem d_Rep_mendTables_98 : decode prog_5_method_2_code 98 = .ok (.dup, 1) := by decide +kernel
theorem d_Rep_mendTables_99 : decode prog_5_method_2_code 99 = .ok (.getfield 27, 3) := by decide +kernel
theorem d_Rep_mendTables_102 : decode prog_5_method_2_code 102 = .ok (.iconst 1, 1) := by decide +kernel
theorem d_Rep_mendTables_103 : decode prog_5_method_2_code 103 = .ok (.iadd, 1) := by decide +kernel
theorem d_Rep_mendTables_104 : decode prog_5_method_2_code 104 = .ok (.putfield 27, 3) := by decide +kernel
theorem d_Rep_mendTables_107 : decode prog_5_method_2_code 107 = .ok (.iinc 1 1, 3) := by decide +kernel
theorem d_Rep_mendTables_110 : decode prog_5_method_2_code 110 = .ok (.goto (-37), 3) := by decide +kernel
theorem d_Rep_mendTables_113 : decode prog_5_method_2_code 113 = .ok (.return_, 1) := by decide +kernel
theorem d_Rep_follow_0 : decode prog_5_method_8_code 0 = .ok (.iload_n 1, 1) := by decide +kernel
theorem d_Rep_follow_1 : decode prog_5_method_8_code 1 = .ok (.istore_n 2, 1) := by decide +kernel
theorem d_Rep_follow_2 : decode prog_5_method_8_code 2 = .ok (.iconst 0, 1) := by decide +kernel
theorem d_Rep_follow_3 : decode prog_5_method_8_code 3 = .ok (.istore_n 3, 1) := by decide +kernel
theorem d_Rep_follow_4 : decode prog_5_method_8_code 4 = .ok (.iload_n 3, 1) := by decide +kernel
theorem d_Rep_follow_5 : decode prog_5_method_8_code 5 = .ok (.bipush 64, 2) := by decide +kernel
theorem d_Rep_follow_7 : decode prog_5_method_8_code 7 = .ok (.if_icmp .ge 88, 3) := by decide +kernel
theorem d_Rep_follow_10 : decode prog_5_method_8_code 10 = .ok (.iload_n 2, 1) := by decide +kernel
theorem d_Rep_follow_11 : decode prog_5_method_8_code 11 = .ok (.invokestatic 52, 3) := by decide +kernel
theorem d_Rep_follow_14 : decode prog_5_method_8_code 14 = .ok (.ifCond .eq 81, 3) := by decide +kernel
theorem d_Rep_follow_17 : decode prog_5_method_8_code 17 = .ok (.aload_n 0, 1) := by decide +kernel
theorem d_Rep_follow_18 : decode prog_5_method_8_code 18 = .ok (.getfield 23, 3) := by decide +kernel
theorem d_Rep_follow_21 : decode prog_5_method_8_code 21 = .ok (.iload_n 2, 1) := by decide +kernel
theorem d_Rep_follow_22 : decode prog_5_method_8_code 22 = .ok (.iconst 1, 1) := by decide +kernel
theorem d_Rep_follow_23 : decode prog_5_method_8_code 23 = .ok (.bastore, 1) := by decide +kernel
theorem d_Rep_follow_24 : decode prog_5_method_8_code 24 = .ok (.iinc 3 1, 3) := by decide +kernel
theorem d_Rep_follow_27 : decode prog_5_method_8_code 27 = .ok (.aload_n 0, 1) := by decide +kernel
theorem d_Rep_follow_28 : decode prog_5_method_8_code 28 = .ok (.getfield 15, 3) := by decide +kernel
theorem d_Rep_follow_31 : decode prog_5_method_8_code 31 = .ok (.iload_n 2, 1) := by decide +kernel
theorem d_Rep_follow_32 : decode prog_5_method_8_code 32 = .ok (.invokevirtual 37, 3) := by decide +kernel
theorem d_Rep_follow_35 : decode prog_5_method_8_code 35 = .ok (.istore 4, 2) := by decide +kernel
theorem d_Rep_follow_37 : decode prog_5_method_8_code 37 = .ok (.iload 4, 2) := by decide +kernel
theorem d_Rep_follow_39 : decode prog_5_method_8_code 39 = .ok (.invokestatic 52, 3) := by decide +kernel
theorem d_Rep_follow_42 : decode prog_5_method_8_code 42 = .ok (.ifCond .eq 47, 3) := by decide +kernel
theorem d_Rep_follow_45 : decode prog_5_method_8_code 45 = .ok (.aload_n 0, 1) := by decide +kernel
theorem d_Rep_follow_46 : decode prog_5_method_8_code 46 = .ok (.getfield 15, 3) := by decide +kernel
theorem d_Rep_follow_49 : decode prog_5_method_8_code 49 = .ok (.iload 4, 2) := by decide +kernel
theorem d_Rep_follow_51 : decode prog_5_method_8_code 51 = .ok (.invokevirtual 55, 3) := by decide +kernel
theorem d_Rep_follow_54 : decode prog_5_method_8_code 54 = .ok (.ifCond .ne 13, 3) := by decide +kernel
theorem d_Rep_follow_57 : decode prog_5_method_8_code 57 = .ok (.aload_n 0, 1) := by decide +kernel
theorem d_Rep_follow_58 : decode prog_5_method_8_code 58 = .ok (.getfield 23, 3) := by decide +kernel
theorem d_Rep_follow_61 : decode prog_5_method_8_code 61 = .ok (.iload 4, 2) := by decide +kernel
theorem d_Rep_follow_63 : decode prog_5_method_8_code 63 = .ok (.baload, 1) := by decide +kernel
theorem d_Rep_follow_64 : decode prog_5_method_8_code 64 = .ok (.ifCond .eq 25, 3) := by decide +kernel
theorem d_Rep_follow_67 : decode prog_5_method_8_code 67 = .ok (.aload_n 0, 1) := by decide +kernel
theorem d_Rep_follow_68 : decode prog_5_method_8_code 68 = .ok (.getfield 15, 3) := by decide +kernel
theorem d_Rep_follow_71 : decode prog_5_method_8_code 71 = .ok (.iload_n 2, 1) := by decide +kernel
theorem d_Rep_follow_72 : decode prog_5_method_8_code 72 = .ok (.ldc 48, 2) := by decide +kernel
theorem d_Rep_follow_74 : decode prog_5_method_8_code 74 = .ok (.invokevirtual 49, 3) := by decide +kernel
theorem d_Rep_follow_77 : decode prog_5_method_8_code 77 = .ok (.aload_n 0, 1) := by decide +kernel
theorem d_Rep_follow_78 : decode prog_5_method_8_code 78 = .ok (.dup, 1) := by decide +kernel
theorem d_Rep_follow_79 : decode prog_5_method_8_code 79 = .ok (.getfield 27, 3) := by decide +kernel
theorem d_Rep_follow_82 : decode prog_5_method_8_code 82 = .ok (.iconst 1, 1) := by decide +kernel
theorem d_Rep_follow_83 : decode prog_5_method_8_code 83 = .ok (.iadd, 1) := by decide +kernel
theorem d_Rep_follow_84 : decode prog_5_method_8_code 84 = .ok (.putfield 27, 3) := by decide +kernel
theorem d_Rep_follow_87 : decode prog_5_method_8_code 87 = .ok (.iload_n 3, 1) := by decide +kernel
theorem d_Rep_follow_88 : decode prog_5_method_8_code 88 = .ok (.ireturn, 1) := by decide +kernel
theorem d_Rep_follow_89 : decode prog_5_method_8_code 89 = .ok (.iload 4, 2) := by decide +kernel
theorem d_Rep_follow_91 : decode prog_5_method_8_code 91 = .ok (.istore_n 2, 1) := by decide +kernel
theorem d_Rep_follow_92 : decode prog_5_method_8_code 92 = .ok (.goto (-88), 3) := by decide +kernel
theorem d_Rep_follow_95 : decode prog_5_method_8_code 95 = .ok (.iload_n 3, 1) := by decide +kernel
theorem d_Rep_follow_96 : decode prog_5_method_8_code 96 = .ok (.ireturn, 1) := by decide +kernel
theorem d_Rep_mendRoot_0 : decode prog_5_method_4_code 0 = .ok (.aload_n 0, 1) := by decide +kernel
theorem d_Rep_mendRoot_1 : decode prog_5_method_4_code 1 = .ok (.getfield 15, 3) := by decide +kernel
theorem d_Rep_mendRoot_4 : decode prog_5_method_4_code 4 = .ok (.iconst 2, 1) := by decide +kernel
theorem d_Rep_mendRoot_5 : decode prog_5_method_4_code 5 = .ok (.invokevirtual 55, 3) := by decide +kernel
theorem d_Rep_mendRoot_8 : decode prog_5_method_4_code 8 = .ok (.ifCond .eq 23, 3) := by decide +kernel
theorem d_Rep_mendRoot_11 : decode prog_5_method_4_code 11 = .ok (.aload_n 0, 1) := by decide +kernel
theorem d_Rep_mendRoot_12 : decode prog_5_method_4_code 12 = .ok (.getfield 15, 3) := by decide +kernel
theorem d_Rep_mendRoot_15 : decode prog_5_method_4_code 15 = .ok (.iconst 2, 1) := by decide +kernel
theorem d_Rep_mendRoot_16 : decode prog_5_method_4_code 16 = .ok (.ldc 48, 2) := by decide +kernel
theorem d_Rep_mendRoot_18 : decode prog_5_method_4_code 18 = .ok (.invokevirtual 49, 3) := by decide +kernel
theorem d_Rep_mendRoot_21 : decode prog_5_method_4_code 21 = .ok (.aload_n 0, 1) := by decide +kernel
theorem d_Rep_mendRoot_22 : decode prog_5_method_4_code 22 = .ok (.dup, 1) := by decide +kernel
theorem d_Rep_mendRoot_23 : decode prog_5_method_4_code 23 = .ok (.getfield 27, 3) := by decide +kernel
theorem d_Rep_mendRoot_26 : decode prog_5_method_4_code 26 = .ok (.iconst 1, 1) := by decide +kernel
theorem d_Rep_mendRoot_27 : decode prog_5_method_4_code 27 = .ok (.iadd, 1) := by decide +kernel
theorem d_Rep_mendRoot_28 : decode prog_5_method_4_code 28 = .ok (.putfield 27, 3) := by decide +kernel
theorem d_Rep_mendRoot_31 : decode prog_5_method_4_code 31 = .ok (.aload_n 0, 1) := by decide +kernel
theorem d_Rep_mendRoot_32 : decode prog_5_method_4_code 32 = .ok (.iconst 2, 1) := by decide +kernel
theorem d_Rep_mendRoot_33 : decode prog_5_method_4_code 33 = .ok (.invokevirtual 58, 3) := by decide +kernel
theorem d_Rep_mendRoot_36 : decode prog_5_method_4_code 36 = .ok (.pop, 1) := by decide +kernel
theorem d_Rep_mendRoot_37 : decode prog_5_method_4_code 37 = .ok (.return_, 1) := by decide +kernel
theorem d_Folder_isTellingPart_0 : decode prog_3_method_25_code 0 = .ok (.aload_n 0, 1) := by decide +kernel
theorem d_Folder_isTellingPart_1 : decode prog_3_method_25_code 1 = .ok (.iload_n 1, 1) := by decide +kernel
theorem d_Folder_isTellingPart_2 : decode prog_3_method_25_code 2 = .ok (.invokevirtual 64, 3) := by decide +kernel
theorem d_Folder_isTellingPart_5 : decode prog_3_method_25_code 5 = .ok (.bipush 15, 2) := by decide +kernel
theorem d_Folder_isTellingPart_7 : decode prog_3_method_25_code 7 = .ok (.if_icmp .ne 28, 3) := by decide +kernel
theorem d_Folder_isTellingPart_10 : decode prog_3_method_25_code 10 = .ok (.aload_n 0, 1) := by decide +kernel
theorem d_Folder_isTellingPart_11 : decode prog_3_method_25_code 11 = .ok (.iload_n 1, 1) := by decide +kernel
theorem d_Folder_isTellingPart_12 : decode prog_3_method_25_code 12 = .ok (.iconst 1, 1) := by decide +kernel
theorem d_Folder_isTellingPart_13 : decode prog_3_method_25_code 13 = .ok (.iadd, 1) := by decide +kernel
theorem d_Folder_isTellingPart_14 : decode prog_3_method_25_code 14 = .ok (.invokevirtual 74, 3) := by decide +kernel
theorem d_Folder_isTellingPart_17 : decode prog_3_method_25_code 17 = .ok (.ifCond .gt 14, 3) := by decide +kernel
theorem d_Folder_isTellingPart_20 : decode prog_3_method_25_code 20 = .ok (.aload_n 0, 1) := by decide +kernel
theorem d_Folder_isTellingPart_21 : decode prog_3_method_25_code 21 = .ok (.iload_n 1, 1) := by decide +kernel
theorem d_Folder_isTellingPart_22 : decode prog_3_method_25_code 22 = .ok (.iconst 2, 1) := by decide +kernel
theorem d_Folder_isTellingPart_23 : decode prog_3_method_25_code 23 = .ok (.iadd, 1) := by decide +kernel
theorem d_Folder_isTellingPart_24 : decode prog_3_method_25_code 24 = .ok (.invokevirtual 74, 3) := by decide +kernel
theorem d_Folder_isTellingPart_27 : decode prog_3_method_25_code 27 = .ok (.iconst 1, 1) := by decide +kernel
theorem d_Folder_isTellingPart_28 : decode prog_3_method_25_code 28 = .ok (.if_icmp .le 7, 3) := by decide +kernel
theorem d_Folder_isTellingPart_31 : decode prog_3_method_25_code 31 = .ok (.iconst 1, 1) := by decide +kernel
theorem d_Folder_isTellingPart_32 : decode prog_3_method_25_code 32 = .ok (.goto 4, 3) := by decide +kernel
theorem d_Folder_isTellingPart_35 : decode prog_3_method_25_code 35 = .ok (.iconst 0, 1) := by decide +kernel
theorem d_Folder_isTellingPart_36 : decode prog_3_method_25_code 36 = .ok (.ireturn, 1) := by decide +kernel
theorem d_Rep_isHopeless_0 : decode prog_5_method_7_code 0 = .ok (.aload_n 0, 1) := by decide +kernel
theorem d_Rep_isHopeless_1 : decode prog_5_method_7_code 1 = .ok (.getfield 19, 3) := by decide +kernel
theorem d_Rep_isHopeless_4 : decode prog_5_method_7_code 4 = .ok (.iload_n 1, 1) := by decide +kernel
theorem d_Rep_isHopeless_5 : decode prog_5_method_7_code 5 = .ok (.invokevirtual 97, 3) := by decide +kernel
theorem d_Rep_isHopeless_8 : decode prog_5_method_7_code 8 = .ok (.ifCond .ne 5, 3) := by decide +kernel
theorem d_Rep_isHopeless_11 : decode prog_5_method_7_code 11 = .ok (.iconst 1, 1) := by decide +kernel
theorem d_Rep_isHopeless_12 : decode prog_5_method_7_code 12 = .ok (.ireturn, 1) := by decide +kernel
theorem d_Rep_isHopeless_13 : decode prog_5_method_7_code 13 = .ok (.aload_n 0, 1) := by decide +kernel
theorem d_Rep_isHopeless_14 : decode prog_5_method_7_code 14 = .ok (.getfield 19, 3) := by decide +kernel
theorem d_Rep_isHopeless_17 : decode prog_5_method_7_code 17 = .ok (.iload_n 1, 1) := by decide +kernel
theorem d_Rep_isHopeless_18 : decode prog_5_method_7_code 18 = .ok (.invokevirtual 91, 3) := by decide +kernel
theorem d_Rep_isHopeless_21 : decode prog_5_method_7_code 21 = .ok (.iconst 2, 1) := by decide +kernel
theorem d_Rep_isHopeless_22 : decode prog_5_method_7_code 22 = .ok (.if_icmp .ne 7, 3) := by decide +kernel
theorem d_Rep_isHopeless_25 : decode prog_5_method_7_code 25 = .ok (.iconst 1, 1) := by decide +kernel
theorem d_Rep_isHopeless_26 : decode prog_5_method_7_code 26 = .ok (.goto 4, 3) := by decide +kernel
theorem d_Rep_isHopeless_29 : decode prog_5_method_7_code 29 = .ok (.iconst 0, 1) := by decide +kernel
theorem d_Rep_isHopeless_30 : decode prog_5_method_7_code 30 = .ok (.istore_n 3, 1) := by decide +kernel
theorem d_Rep_isHopeless_31 : decode prog_5_method_7_code 31 = .ok (.aload_n 0, 1) := by decide +kernel
theorem d_Rep_isHopeless_32 : decode prog_5_method_7_code 32 = .ok (.getfield 19, 3) := by decide +kernel
theorem d_Rep_isHopeless_35 : decode prog_5_method_7_code 35 = .ok (.iload_n 1, 1) := by decide +kernel
theorem d_Rep_isHopeless_36 : decode prog_5_method_7_code 36 = .ok (.invokevirtual 88, 3) := by decide +kernel
theorem d_Rep_isHopeless_39 : decode prog_5_method_7_code 39 = .ok (.istore 4, 2) := by decide +kernel
theorem d_Rep_isHopeless_41 : decode prog_5_method_7_code 41 = .ok (.iload 4, 2) := by decide +kernel
theorem d_Rep_isHopeless_43 : decode prog_5_method_7_code 43 = .ok (.ifCond .ne 5, 3) := by decide +kernel
theorem d_Rep_isHopeless_46 : decode prog_5_method_7_code 46 = .ok (.iload_n 3, 1) := by decide +kernel
theorem d_Rep_isHopeless_47 : decode prog_5_method_7_code 47 = .ok (.ireturn, 1) := by decide +kernel
theorem d_Rep_isHopeless_48 : decode prog_5_method_7_code 48 = .ok (.iload 4, 2) := by decide +kernel
theorem d_Rep_isHopeless_50 : decode prog_5_method_7_code 50 = .ok (.invokestatic 52, 3) := by decide +kernel
theorem d_Rep_isHopeless_53 : decode prog_5_method_7_code 53 = .ok (.ifCond .eq 34, 3) := by decide +kernel
theorem d_Rep_isHopeless_56 : decode prog_5_method_7_code 56 = .ok (.aload_n 0, 1) := by decide +kernel
theorem d_Rep_isHopeless_57 : decode prog_5_method_7_code 57 = .ok (.getfield 15, 3) := by decide +kernel
theorem d_Rep_isHopeless_60 : decode prog_5_method_7_code 60 = .ok (.iload 4, 2) := by decide +kernel
theorem d_Rep_isHopeless_62 : decode prog_5_method_7_code 62 = .ok (.invokevirtual 55, 3) := by decide +kernel
theorem d_Rep_isHopeless_65 : decode prog_5_method_7_code 65 = .ok (.ifCond .ne 22, 3) := by decide +kernel
theorem d_Rep_isHopeless_68 : decode prog_5_method_7_code 68 = .ok (.aload_n 0, 1) := by decide +kernel
theorem d_Rep_isHopeless_69 : decode prog_5_method_7_code 69 = .ok (.getfield 23, 3) := by decide +kernel
theorem d_Rep_isHopeless_72 : decode prog_5_method_7_code 72 = .ok (.iload 4, 2) := by decide +kernel
theorem d_Rep_isHopeless_74 : decode prog_5_method_7_code 74 = .ok (.baload, 1) := by decide +kernel
theorem d_Rep_isHopeless_75 : decode prog_5_method_7_code 75 = .ok (.ifCond .ne 12, 3) := by decide +kernel
theorem d_Rep_isHopeless_78 : decode prog_5_method_7_code 78 = .ok (.iload_n 3, 1) := by decide +kernel
theorem d_Rep_isHopeless_79 : decode prog_5_method_7_code 79 = .ok (.ifCond .eq 12, 3) := by decide +kernel
theorem d_Rep_isHopeless_82 : decode prog_5_method_7_code 82 = .ok (.iload_n 2, 1) := by decide +kernel
theorem d_Rep_isHopeless_83 : decode prog_5_method_7_code 83 = .ok (.iconst 5, 1) := by decide +kernel
theorem d_Rep_isHopeless_84 : decode prog_5_method_7_code 84 = .ok (.if_icmp .lt 7, 3) := by decide +kernel
theorem d_Rep_isHopeless_87 : decode prog_5_method_7_code 87 = .ok (.iconst 1, 1) := by decide +kernel
theorem d_Rep_isHopeless_88 : decode prog_5_method_7_code 88 = .ok (.goto 4, 3) := by decide +kernel
theorem d_Rep_isHopeless_91 : decode prog_5_method_7_code 91 = .ok (.iconst 0, 1) := by decide +kernel
theorem d_Rep_isHopeless_92 : decode prog_5_method_7_code 92 = .ok (.ireturn, 1) := by decide +kernel
theorem d_Rep_forget_0 : decode prog_5_method_10_code 0 = .ok (.iload_n 1, 1) := by decide +kernel
theorem d_Rep_forget_1 : decode prog_5_method_10_code 1 = .ok (.istore_n 2, 1) := by decide +kernel
theorem d_Rep_forget_2 : decode prog_5_method_10_code 2 = .ok (.iconst 0, 1) := by decide +kernel
theorem d_Rep_forget_3 : decode prog_5_method_10_code 3 = .ok (.istore_n 3, 1) := by decide +kernel
theorem d_Rep_forget_4 : decode prog_5_method_10_code 4 = .ok (.iload_n 3, 1) := by decide +kernel
theorem d_Rep_forget_5 : decode prog_5_method_10_code 5 = .ok (.bipush 64, 2) := by decide +kernel
theorem d_Rep_forget_7 : decode prog_5_method_10_code 7 = .ok (.if_icmp .ge 32, 3) := by decide +kernel
theorem d_Rep_forget_10 : decode prog_5_method_10_code 10 = .ok (.iload_n 2, 1) := by decide +kernel
theorem d_Rep_forget_11 : decode prog_5_method_10_code 11 = .ok (.invokestatic 52, 3) := by decide +kernel
theorem d_Rep_forget_14 : decode prog_5_method_10_code 14 = .ok (.ifCond .eq 25, 3) := by decide +kernel
theorem d_Rep_forget_17 : decode prog_5_method_10_code 17 = .ok (.aload_n 0, 1) := by decide +kernel
theorem d_Rep_forget_18 : decode prog_5_method_10_code 18 = .ok (.getfield 23, 3) := by decide +kernel
theorem d_Rep_forget_21 : decode prog_5_method_10_code 21 = .ok (.iload_n 2, 1) := by decide +kernel
theorem d_Rep_forget_22 : decode prog_5_method_10_code 22 = .ok (.iconst 0, 1) := by decide +kernel
theorem d_Rep_forget_23 : decode prog_5_method_10_code 23 = .ok (.bastore, 1) := by decide +kernel
theorem d_Rep_forget_24 : decode prog_5_method_10_code 24 = .ok (.aload_n 0, 1) := by decide +kernel
theorem d_Rep_forget_25 : decode prog_5_method_10_code 25 = .ok (.getfield 15, 3) := by decide +kernel
theorem d_Rep_forget_28 : decode prog_5_method_10_code 28 = .ok (.iload_n 2, 1) := by decide +kernel
theorem d_Rep_forget_29 : decode prog_5_method_10_code 29 = .ok (.invokevirtual 37, 3) := by decide +kernel
theorem d_Rep_forget_32 : decode prog_5_method_10_code 32 = .ok (.istore_n 2, 1) := by decide +kernel
theorem d_Rep_forget_33 : decode prog_5_method_10_code 33 = .ok (.iinc 3 1, 3) := by decide +kernel
theorem d_Rep_forget_36 : decode prog_5_method_10_code 36 = .ok (.goto (-32), 3) := by decide +kernel
theorem d_Rep_forget_39 : decode prog_5_method_10_code 39 = .ok (.return_, 1) := by decide +kernel
theorem d_Rep_mendFile_0 : decode prog_5_method_9_code 0 = .ok (.aload_n 0, 1) := by decide +kernel
theorem d_Rep_mendFile_1 : decode prog_5_method_9_code 1 = .ok (.getfield 19, 3) := by decide +kernel
theorem d_Rep_mendFile_4 : decode prog_5_method_9_code 4 = .ok (.iload_n 1, 1) := by decide +kernel
theorem d_Rep_mendFile_5 : decode prog_5_method_9_code 5 = .ok (.invokevirtual 100, 3) := by decide +kernel
theorem d_Rep_mendFile_8 : decode prog_5_method_9_code 8 = .ok (.istore_n 3, 1) := by decide +kernel
theorem d_Rep_mendFile_9 : decode prog_5_method_9_code 9 = .ok (.aload_n 0, 1) := by decide +kernel
theorem d_Rep_mendFile_10 : decode prog_5_method_9_code 10 = .ok (.getfield 19, 3) := by decide +kernel
theorem d_Rep_mendFile_13 : decode prog_5_method_9_code 13 = .ok (.iload_n 1, 1) := by decide +kernel
theorem d_Rep_mendFile_14 : decode prog_5_method_9_code 14 = .ok (.invokevirtual 88, 3) := by decide +kernel
theorem d_Rep_mendFile_17 : decode prog_5_method_9_code 17 = .ok (.istore 4, 2) := by decide +kernel
theorem d_Rep_mendFile_19 : decode prog_5_method_9_code 19 = .ok (.aload_n 0, 1) := by decide +kernel
theorem d_Rep_mendFile_20 : decode prog_5_method_9_code 20 = .ok (.getfield 19, 3) := by decide +kernel
theorem d_Rep_mendFile_23 : decode prog_5_method_9_code 23 = .ok (.iload_n 1, 1) := by decide +kernel
theorem d_Rep_mendFile_24 : decode prog_5_method_9_code 24 = .ok (.invokevirtual 103, 3) := by decide +kernel
theorem d_Rep_mendFile_27 : decode prog_5_method_9_code 27 = .ok (.bipush 32, 2) := by decide +kernel
theorem d_Rep_mendFile_29 : decode prog_5_method_9_code 29 = .ok (.iadd, 1) := by decide +kernel
theorem d_Rep_mendFile_30 : decode prog_5_method_9_code 30 = .ok (.iconst 1, 1) := by decide +kernel
theorem d_Rep_mendFile_31 : decode prog_5_method_9_code 31 = .ok (.isub, 1) := by decide +kernel
theorem d_Rep_mendFile_32 : decode prog_5_method_9_code 32 = .ok (.bipush 32, 2) := by decide +kernel
theorem d_Rep_mendFile_34 : decode prog_5_method_9_code 34 = .ok (.idiv, 1) := by decide +kernel
theorem d_Rep_mendFile_35 : decode prog_5_method_9_code 35 = .ok (.istore 5, 2) := by decide +kernel
theorem d_Rep_mendFile_37 : decode prog_5_method_9_code 37 = .ok (.iload 5, 2) := by decide +kernel
theorem d_Rep_mendFile_39 : decode prog_5_method_9_code 39 = .ok (.iload_n 2, 1) := by decide +kernel
theorem d_Rep_mendFile_40 : decode prog_5_method_9_code 40 = .ok (.if_icmp .le 31, 3) := by decide +kernel
theorem d_Rep_mendFile_43 : decode prog_5_method_9_code 43 = .ok (.aload_n 0, 1) := by decide +kernel
theorem d_Rep_mendFile_44 : decode prog_5_method_9_code 44 = .ok (.getfield 9, 3) := by decide +kernel
theorem d_Rep_mendFile_47 : decode prog_5_method_9_code 47 = .ok (.iload_n 3, 1) := by decide +kernel
theorem d_Rep_mendFile_48 : decode prog_5_method_9_code 48 = .ok (.bipush 10, 2) := by decide +kernel
theorem d_Rep_mendFile_50 : decode prog_5_method_9_code 50 = .ok (.iadd, 1) := by decide +kernel
theorem d_Rep_mendFile_51 : decode prog_5_method_9_code 51 = .ok (.iload_n 2, 1) := by decide +kernel
theorem d_Rep_mendFile_52 : decode prog_5_method_9_code 52 = .ok (.bipush 32, 2) := by decide +kernel
theorem d_Rep_mendFile_54 : decode prog_5_method_9_code 54 = .ok (.imul, 1) := by decide +kernel
theorem d_Rep_mendFile_55 : decode prog_5_method_9_code 55 = .ok (.invokevirtual 106, 3) := by decide +kernel
theorem d_Rep_mendFile_58 : decode prog_5_method_9_code 58 = .ok (.aload_n 0, 1) := by decide +kernel
theorem d_Rep_mendFile_59 : decode prog_5_method_9_code 59 = .ok (.dup, 1) := by decide +kernel
theorem d_Rep_mendFile_60 : decode prog_5_method_9_code 60 = .ok (.getfield 27, 3) := by decide +kernel
theorem d_Rep_mendFile_63 : decode prog_5_method_9_code 63 = .ok (.iconst 1, 1) := by decide +kernel
theorem d_Rep_mendFile_64 : decode prog_5_method_9_code 64 = .ok (.iadd, 1) := by decide +kernel
theorem d_Rep_mendFile_65 : decode prog_5_method_9_code 65 = .ok (.putfield 27, 3) := by decide +kernel
theorem d_Rep_mendFile_68 : decode prog_5_method_9_code 68 = .ok (.goto 98, 3) := by decide +kernel
theorem d_Rep_mendFile_71 : decode prog_5_method_9_code 71 = .ok (.iload 5, 2) := by decide +kernel
theorem d_Rep_mendFile_73 : decode prog_5_method_9_code 73 = .ok (.ifCond .ne 38, 3) := by decide +kernel
theorem d_Rep_mendFile_76 : decode prog_5_method_9_code 76 = .ok (.iload_n 2, 1) := by decide +kernel
theorem d_Rep_mendFile_77 : decode prog_5_method_9_code 77 = .ok (.ifCond .le 34, 3) := by decide +kernel
theorem d_Rep_mendFile_80 : decode prog_5_method_9_code 80 = .ok (.aload_n 0, 1) := by decide +kernel
theorem d_Rep_mendFile_81 : decode prog_5_method_9_code 81 = .ok (.iload 4, 2) := by decide +kernel
theorem d_Rep_mendFile_83 : decode prog_5_method_9_code 83 = .ok (.invokevirtual 111, 3) := by decide +kernel
theorem d_Rep_mendFile_86 : decode prog_5_method_9_code 86 = .ok (.aload_n 0, 1) := by decide +kernel
theorem d_Rep_mendFile_87 : decode prog_5_method_9_code 87 = .ok (.getfield 9, 3) := by decide +kernel
theorem d_Rep_mendFile_90 : decode prog_5_method_9_code 90 = .ok (.iload_n 3, 1) := by decide +kernel
theorem d_Rep_mendFile_91 : decode prog_5_method_9_code 91 = .ok (.bipush 8, 2) := by decide +kernel
theorem d_Rep_mendFile_93 : decode prog_5_method_9_code 93 = .ok (.iadd, 1) := by decide +kernel
theorem d_Rep_mendFile_94 : decode prog_5_method_9_code 94 = .ok (.iconst 0, 1) := by decide +kernel
theorem d_Rep_mendFile_95 : decode prog_5_method_9_code 95 = .ok (.invokevirtual 106, 3) := by decide +kernel
theorem d_Rep_mendFile_98 : decode prog_5_method_9_code 98 = .ok (.aload_n 0, 1) := by decide +kernel
theorem d_Rep_mendFile_99 : decode prog_5_method_9_code 99 = .ok (.dup, 1) := by decide +kernel
theorem d_Rep_mendFile_100 : decode prog_5_method_9_code 100 = .ok (.getfield 27, 3) := by decide +kernel
theorem d_Rep_mendFile_103 : decode prog_5_method_9_code 103 = .ok (.iconst 1, 1) := by decide +kernel
theorem d_Rep_mendFile_104 : decode prog_5_method_9_code 104 = .ok (.iadd, 1) := by decide +kernel
theorem d_Rep_mendFile_105 : decode prog_5_method_9_code 105 = .ok (.putfield 27, 3) := by decide +kernel
theorem d_Rep_mendFile_108 : decode prog_5_method_9_code 108 = .ok (.goto 58, 3) := by decide +kernel
theorem d_Rep_mendFile_111 : decode prog_5_method_9_code 111 = .ok (.iload 5, 2) := by decide +kernel
theorem d_Rep_mendFile_113 : decode prog_5_method_9_code 113 = .ok (.iload_n 2, 1) := by decide +kernel
theorem d_Rep_mendFile_114 : decode prog_5_method_9_code 114 = .ok (.if_icmp .ge 52, 3) := by decide +kernel
theorem d_Rep_mendFile_117 : decode prog_5_method_9_code 117 = .ok (.aload_n 0, 1) := by decide +kernel
theorem d_Rep_mendFile_118 : decode prog_5_method_9_code 118 = .ok (.getfield 15, 3) := by decide +kernel
theorem d_Rep_mendFile_121 : decode prog_5_method_9_code 121 = .ok (.iload 4, 2) := by decide +kernel
theorem d_Rep_mendFile_123 : decode prog_5_method_9_code 123 = .ok (.iload 5, 2) := by decide +kernel
theorem d_Rep_mendFile_125 : decode prog_5_method_9_code 125 = .ok (.iconst 1, 1) := by decide +kernel
theorem d_Rep_mendFile_126 : decode prog_5_method_9_code 126 = .ok (.isub, 1) := by decide +kernel
theorem d_Rep_mendFile_127 : decode prog_5_method_9_code 127 = .ok (.invokevirtual 114, 3) := by decide +kernel
theorem d_Rep_mendFile_130 : decode prog_5_method_9_code 130 = .ok (.istore 6, 2) := by decide +kernel
theorem d_Rep_mendFile_132 : decode prog_5_method_9_code 132 = .ok (.aload_n 0, 1) := by decide +kernel
theorem d_Rep_mendFile_133 : decode prog_5_method_9_code 133 = .ok (.aload_n 0, 1) := by decide +kernel
theorem d_Rep_mendFile_134 : decode prog_5_method_9_code 134 = .ok (.getfield 15, 3) := by decide +kernel
theorem d_Rep_mendFile_137 : decode prog_5_method_9_code 137 = .ok (.iload 6, 2) := by decide +kernel
theorem d_Rep_mendFile_139 : decode prog_5_method_9_code 139 = .ok (.invokevirtual 37, 3) := by decide +kernel
theorem d_Rep_mendFile_142 : decode prog_5_method_9_code 142 = .ok (.invokevirtual 111, 3) := by decide +kernel
theorem d_Rep_mendFile_145 : decode prog_5_method_9_code 145 = .ok (.aload_n 0, 1) := by decide +kernel
theorem d_Rep_mendFile_146 : decode prog_5_method_9_code 146 = .ok (.getfield 15, 3) := by decide +kernel
theorem d_Rep_mendFile_149 : decode prog_5_method_9_code 149 = .ok (.iload 6, 2) := by decide +kernel
theorem d_Rep_mendFile_151 : decode prog_5_method_9_code 151 = .ok (.ldc 48, 2) := by decide +kernel
theorem d_Rep_mendFile_153 : decode prog_5_method_9_code 153 = .ok (.invokevirtual 49, 3) := by decide +kernel
theorem d_Rep_mendFile_156 : decode prog_5_method_9_code 156 = .ok (.aload_n 0, 1) := by decide +kernel
theorem d_Rep_mendFile_157 : decode prog_5_method_9_code 157 = .ok (.dup, 1) := by decide +kernel
theorem d_Rep_mendFile_158 : decode prog_5_method_9_code 158 = .ok (.getfield 27, 3) := by decide +kernel
theorem d_Rep_mendFile_161 : decode prog_5_method_9_code 161 = .ok (.iconst 1, 1) := by decide +kernel
theorem d_Rep_mendFile_162 : decode prog_5_method_9_code 162 = .ok (.iadd, 1) := by decide +kernel
theorem d_Rep_mendFile_163 : decode prog_5_method_9_code 163 = .ok (.putfield 27, 3) := by decide +kernel
theorem d_Rep_mendFile_166 : decode prog_5_method_9_code 166 = .ok (.return_, 1) := by decide +kernel
theorem d_Rep_visit_0 : decode prog_5_method_6_code 0 = .ok (.aload_n 0, 1) := by decide +kernel
theorem d_Rep_visit_1 : decode prog_5_method_6_code 1 = .ok (.getfield 19, 3) := by decide +kernel
theorem d_Rep_visit_4 : decode prog_5_method_6_code 4 = .ok (.iload_n 1, 1) := by decide +kernel
theorem d_Rep_visit_5 : decode prog_5_method_6_code 5 = .ok (.invokevirtual 77, 3) := by decide +kernel
theorem d_Rep_visit_8 : decode prog_5_method_6_code 8 = .ok (.ifCond .ne 14, 3) := by decide +kernel
theorem d_Rep_visit_11 : decode prog_5_method_6_code 11 = .ok (.aload_n 0, 1) := by decide +kernel
theorem d_Rep_visit_12 : decode prog_5_method_6_code 12 = .ok (.getfield 19, 3) := by decide +kernel
theorem d_Rep_visit_15 : decode prog_5_method_6_code 15 = .ok (.iload_n 1, 1) := by decide +kernel
theorem d_Rep_visit_16 : decode prog_5_method_6_code 16 = .ok (.invokevirtual 78, 3) := by decide +kernel
theorem d_Rep_visit_19 : decode prog_5_method_6_code 19 = .ok (.ifCond .eq 5, 3) := by decide +kernel
theorem d_Rep_visit_22 : decode prog_5_method_6_code 22 = .ok (.iconst 0, 1) := by decide +kernel
theorem d_Rep_visit_23 : decode prog_5_method_6_code 23 = .ok (.ireturn, 1) := by decide +kernel
theorem d_Rep_visit_24 : decode prog_5_method_6_code 24 = .ok (.aload_n 0, 1) := by decide +kernel
theorem d_Rep_visit_25 : decode prog_5_method_6_code 25 = .ok (.iload_n 1, 1) := by decide +kernel
theorem d_Rep_visit_26 : decode prog_5_method_6_code 26 = .ok (.iload_n 2, 1) := by decide +kernel
theorem d_Rep_visit_27 : decode prog_5_method_6_code 27 = .ok (.invokevirtual 81, 3) := by decide +kernel
theorem d_Rep_visit_30 : decode prog_5_method_6_code 30 = .ok (.ifCond .eq 23, 3) := by decide +kernel
theorem d_Rep_visit_33 : decode prog_5_method_6_code 33 = .ok (.aload_n 0, 1) := by decide +kernel
theorem d_Rep_visit_34 : decode prog_5_method_6_code 34 = .ok (.getfield 19, 3) := by decide +kernel
theorem d_Rep_visit_37 : decode prog_5_method_6_code 37 = .ok (.iload_n 1, 1) := by decide +kernel
theorem d_Rep_visit_38 : decode prog_5_method_6_code 38 = .ok (.invokevirtual 85, 3) := by decide +kernel
theorem d_Rep_visit_41 : decode prog_5_method_6_code 41 = .ok (.aload_n 0, 1) := by decide +kernel
theorem d_Rep_visit_42 : decode prog_5_method_6_code 42 = .ok (.dup, 1) := by decide +kernel
theorem d_Rep_visit_43 : decode prog_5_method_6_code 43 = .ok (.getfield 27, 3) := by decide +kernel
theorem d_Rep_visit_46 : decode prog_5_method_6_code 46 = .ok (.iconst 1, 1) := by decide +kernel
theorem d_Rep_visit_47 : decode prog_5_method_6_code 47 = .ok (.iadd, 1) := by decide +kernel
theorem d_Rep_visit_48 : decode prog_5_method_6_code 48 = .ok (.putfield 27, 3) := by decide +kernel
theorem d_Rep_visit_51 : decode prog_5_method_6_code 51 = .ok (.iconst 0, 1) := by decide +kernel
theorem d_Rep_visit_52 : decode prog_5_method_6_code 52 = .ok (.ireturn, 1) := by decide +kernel
theorem d_Rep_visit_53 : decode prog_5_method_6_code 53 = .ok (.aload_n 0, 1) := by decide +kernel
theorem d_Rep_visit_54 : decode prog_5_method_6_code 54 = .ok (.getfield 19, 3) := by decide +kernel
theorem d_Rep_visit_57 : decode prog_5_method_6_code 57 = .ok (.iload_n 1, 1) := by decide +kernel
theorem d_Rep_visit_58 : decode prog_5_method_6_code 58 = .ok (.invokevirtual 88, 3) := by decide +kernel
theorem d_Rep_visit_61 : decode prog_5_method_6_code 61 = .ok (.istore_n 3, 1) := by decide +kernel
theorem d_Rep_visit_62 : decode prog_5_method_6_code 62 = .ok (.aload_n 0, 1) := by decide +kernel
theorem d_Rep_visit_63 : decode prog_5_method_6_code 63 = .ok (.iload_n 3, 1) := by decide +kernel
theorem d_Rep_visit_64 : decode prog_5_method_6_code 64 = .ok (.invokevirtual 58, 3) := by decide +kernel
theorem d_Rep_visit_67 : decode prog_5_method_6_code 67 = .ok (.istore 4, 2) := by decide +kernel
theorem d_Rep_visit_69 : decode prog_5_method_6_code 69 = .ok (.aload_n 0, 1) := by decide +kernel
theorem d_Rep_visit_70 : decode prog_5_method_6_code 70 = .ok (.getfield 19, 3) := by decide +kernel
theorem d_Rep_visit_73 : decode prog_5_method_6_code 73 = .ok (.iload_n 1, 1) := by decide +kernel
theorem d_Rep_visit_74 : decode prog_5_method_6_code 74 = .ok (.invokevirtual 91, 3) := by decide +kernel
theorem d_Rep_visit_77 : decode prog_5_method_6_code 77 = .ok (.iconst 2, 1) := by decide +kernel
theorem d_Rep_visit_78 : decode prog_5_method_6_code 78 = .ok (.if_icmp .ne 5, 3) := by decide +kernel
theorem d_Rep_visit_81 : decode prog_5_method_6_code 81 = .ok (.iload_n 3, 1) := by decide +kernel
theorem d_Rep_visit_82 : decode prog_5_method_6_code 82 = .ok (.ireturn, 1) := by decide +kernel
theorem d_Rep_visit_83 : decode prog_5_method_6_code 83 = .ok (.aload_n 0, 1) := by decide +kernel
theorem d_Rep_visit_84 : decode prog_5_method_6_code 84 = .ok (.iload_n 1, 1) := by decide +kernel
theorem d_Rep_visit_85 : decode prog_5_method_6_code 85 = .ok (.iload 4, 2) := by decide +kernel
theorem d_Rep_visit_87 : decode prog_5_method_6_code 87 = .ok (.invokevirtual 94, 3) := by decide +kernel
theorem d_Rep_visit_90 : decode prog_5_method_6_code 90 = .ok (.iconst 0, 1) := by decide +kernel
theorem d_Rep_visit_91 : decode prog_5_method_6_code 91 = .ok (.ireturn, 1) := by decide +kernel
theorem d_Rep_goThrough_0 : decode prog_5_method_5_code 0 = .ok (.aload_n 0, 1) := by decide +kernel
theorem d_Rep_goThrough_1 : decode prog_5_method_5_code 1 = .ok (.getfield 19, 3) := by decide +kernel
theorem d_Rep_goThrough_4 : decode prog_5_method_5_code 4 = .ok (.iload_n 1, 1) := by decide +kernel
theorem d_Rep_goThrough_5 : decode prog_5_method_5_code 5 = .ok (.invokevirtual 61, 3) := by decide +kernel
theorem d_Rep_goThrough_8 : decode prog_5_method_5_code 8 = .ok (.aload_n 0, 1) := by decide +kernel
theorem d_Rep_goThrough_9 : decode prog_5_method_5_code 9 = .ok (.getfield 19, 3) := by decide +kernel
theorem d_Rep_goThrough_12 : decode prog_5_method_5_code 12 = .ok (.getfield 67, 3) := by decide +kernel
theorem d_Rep_goThrough_15 : decode prog_5_method_5_code 15 = .ok (.istore_n 3, 1) := by decide +kernel
theorem d_Rep_goThrough_16 : decode prog_5_method_5_code 16 = .ok (.iconst 0, 1) := by decide +kernel
theorem d_Rep_goThrough_17 : decode prog_5_method_5_code 17 = .ok (.istore 4, 2) := by decide +kernel
theorem d_Rep_goThrough_19 : decode prog_5_method_5_code 19 = .ok (.iload 4, 2) := by decide +kernel
theorem d_Rep_goThrough_21 : decode prog_5_method_5_code 21 = .ok (.iload_n 3, 1) := by decide +kernel
theorem d_Rep_goThrough_22 : decode prog_5_method_5_code 22 = .ok (.if_icmp .ge 45, 3) := by decide +kernel
theorem d_Rep_goThrough_25 : decode prog_5_method_5_code 25 = .ok (.aload_n 0, 1) := by decide +kernel
theorem d_Rep_goThrough_26 : decode prog_5_method_5_code 26 = .ok (.iload 4, 2) := by decide +kernel
theorem d_Rep_goThrough_28 : decode prog_5_method_5_code 28 = .ok (.iload_n 2, 1) := by decide +kernel
theorem d_Rep_goThrough_29 : decode prog_5_method_5_code 29 = .ok (.invokevirtual 70, 3) := by decide +kernel
theorem d_Rep_goThrough_32 : decode prog_5_method_5_code 32 = .ok (.istore 5, 2) := by decide +kernel
theorem d_Rep_goThrough_34 : decode prog_5_method_5_code 34 = .ok (.iload 5, 2) := by decide +kernel
theorem d_Rep_goThrough_36 : decode prog_5_method_5_code 36 = .ok (.ifCond .eq 25, 3) := by decide +kernel
theorem d_Rep_goThrough_39 : decode prog_5_method_5_code 39 = .ok (.iload_n 2, 1) := by decide +kernel
theorem d_Rep_goThrough_40 : decode prog_5_method_5_code 40 = .ok (.iconst 5, 1) := by decide +kernel
theorem d_Rep_goThrough_41 : decode prog_5_method_5_code 41 = .ok (.if_icmp .ge 20, 3) := by decide +kernel
theorem d_Rep_goThrough_44 : decode prog_5_method_5_code 44 = .ok (.aload_n 0, 1) := by decide +kernel
theorem d_Rep_goThrough_45 : decode prog_5_method_5_code 45 = .ok (.iload 5, 2) := by decide +kernel
theorem d_Rep_goThrough_47 : decode prog_5_method_5_code 47 = .ok (.iload_n 2, 1) := by decide +kernel
theorem d_Rep_goThrough_48 : decode prog_5_method_5_code 48 = .ok (.iconst 1, 1) := by decide +kernel
theorem d_Rep_goThrough_49 : decode prog_5_method_5_code 49 = .ok (.iadd, 1) := by decide +kernel
theorem d_Rep_goThrough_50 : decode prog_5_method_5_code 50 = .ok (.invokevirtual 74, 3) := by decide +kernel
theorem d_Rep_goThrough_53 : decode prog_5_method_5_code 53 = .ok (.aload_n 0, 1) := by decide +kernel
theorem d_Rep_goThrough_54 : decode prog_5_method_5_code 54 = .ok (.getfield 19, 3) := by decide +kernel
theorem d_Rep_goThrough_57 : decode prog_5_method_5_code 57 = .ok (.iload_n 1, 1) := by decide +kernel
theorem d_Rep_goThrough_58 : decode prog_5_method_5_code 58 = .ok (.invokevirtual 61, 3) := by decide +kernel
theorem d_Rep_goThrough_61 : decode prog_5_method_5_code 61 = .ok (.iinc 4 1, 3) := by decide +kernel
theorem d_Rep_goThrough_64 : decode prog_5_method_5_code 64 = .ok (.goto (-45), 3) := by decide +kernel
theorem d_Rep_goThrough_67 : decode prog_5_method_5_code 67 = .ok (.return_, 1) := by decide +kernel
theorem d_Rep_clearLost_0 : decode prog_5_method_11_code 0 = .ok (.iconst 2, 1) := by decide +kernel
theorem d_Rep_clearLost_1 : decode prog_5_method_11_code 1 = .ok (.istore_n 1, 1) := by decide +kernel
theorem d_Rep_clearLost_2 : decode prog_5_method_11_code 2 = .ok (.iload_n 1, 1) := by decide +kernel
theorem d_Rep_clearLost_3 : decode prog_5_method_11_code 3 = .ok (.bipush 64, 2) := by decide +kernel
theorem d_Rep_clearLost_5 : decode prog_5_method_11_code 5 = .ok (.if_icmp .ge 48, 3) := by decide +kernel
theorem d_Rep_clearLost_8 : decode prog_5_method_11_code 8 = .ok (.aload_n 0, 1) := by decide +kernel
theorem d_Rep_clearLost_9 : decode prog_5_method_11_code 9 = .ok (.getfield 23, 3) := by decide +kernel
theorem d_Rep_clearLost_12 : decode prog_5_method_11_code 12 = .ok (.iload_n 1, 1) := by decide +kernel
theorem d_Rep_clearLost_13 : decode prog_5_method_11_code 13 = .ok (.baload, 1) := by decide +kernel
theorem d_Rep_clearLost_14 : decode prog_5_method_11_code 14 = .ok (.ifCond .ne 33, 3) := by decide +kernel
theorem d_Rep_clearLost_17 : decode prog_5_method_11_code 17 = .ok (.aload_n 0, 1) := by decide +kernel
theorem d_Rep_clearLost_18 : decode prog_5_method_11_code 18 = .ok (.getfield 15, 3) := by decide +kernel
theorem d_Rep_clearLost_21 : decode prog_5_method_11_code 21 = .ok (.iload_n 1, 1) := by decide +kernel
theorem d_Rep_clearLost_22 : decode prog_5_method_11_code 22 = .ok (.invokevirtual 55, 3) := by decide +kernel
theorem d_Rep_clearLost_25 : decode prog_5_method_11_code 25 = .ok (.ifCond .ne 22, 3) := by decide +kernel
theorem d_Rep_clearLost_28 : decode prog_5_method_11_code 28 = .ok (.aload_n 0, 1) := by decide +kernel
theorem d_Rep_clearLost_29 : decode prog_5_method_11_code 29 = .ok (.getfield 15, 3) := by decide +kernel
theorem d_Rep_clearLost_32 : decode prog_5_method_11_code 32 = .ok (.iload_n 1, 1) := by decide +kernel
theorem d_Rep_clearLost_33 : decode prog_5_method_11_code 33 = .ok (.iconst 0, 1) := by decide +kernel
theorem d_Rep_clearLost_34 : decode prog_5_method_11_code 34 = .ok (.invokevirtual 49, 3) := by decide +kernel
theorem d_Rep_clearLost_37 : decode prog_5_method_11_code 37 = .ok (.aload_n 0, 1) := by decide +kernel
theorem d_Rep_clearLost_38 : decode prog_5_method_11_code 38 = .ok (.dup, 1) := by decide +kernel
theorem d_Rep_clearLost_39 : decode prog_5_method_11_code 39 = .ok (.getfield 27, 3) := by decide +kernel
theorem d_Rep_clearLost_42 : decode prog_5_method_11_code 42 = .ok (.iconst 1, 1) := by decide +kernel
theorem d_Rep_clearLost_43 : decode prog_5_method_11_code 43 = .ok (.iadd, 1) := by decide +kernel
theorem d_Rep_clearLost_44 : decode prog_5_method_11_code 44 = .ok (.putfield 27, 3) := by decide +kernel
theorem d_Rep_clearLost_47 : decode prog_5_method_11_code 47 = .ok (.iinc 1 1, 3) := by decide +kernel
theorem d_Rep_clearLost_50 : decode prog_5_method_11_code 50 = .ok (.goto (-48), 3) := by decide +kernel
theorem d_Rep_clearLost_53 : decode prog_5_method_11_code 53 = .ok (.return_, 1) := by decide +kernel
theorem d_V_repair_0 : decode prog_1_method_14_code 0 = .ok (.aload_n 0, 1) := by decide +kernel
theorem d_V_repair_1 : decode prog_1_method_14_code 1 = .ok (.getfield 21, 3) := by decide +kernel
theorem d_V_repair_4 : decode prog_1_method_14_code 4 = .ok (.getfield 262, 3) := by decide +kernel
theorem d_V_repair_7 : decode prog_1_method_14_code 7 = .ok (.ifCond .ne 14, 3) := by decide +kernel
theorem d_V_repair_10 : decode prog_1_method_14_code 10 = .ok (.new 266, 3) := by decide +kernel
theorem d_V_repair_13 : decode prog_1_method_14_code 13 = .ok (.dup, 1) := by decide +kernel
theorem d_V_repair_14 : decode prog_1_method_14_code 14 = .ok (.ldc_w 268, 3) := by decide +kernel
theorem d_V_repair_17 : decode prog_1_method_14_code 17 = .ok (.invokespecial 270, 3) := by decide +kernel
theorem d_V_repair_20 : decode prog_1_method_14_code 20 = .ok (.athrow, 1) := by decide +kernel
theorem d_V_repair_21 : decode prog_1_method_14_code 21 = .ok (.aload_n 0, 1) := by decide +kernel
theorem d_V_repair_22 : decode prog_1_method_14_code 22 = .ok (.getfield 12, 3) := by decide +kernel
theorem d_V_repair_25 : decode prog_1_method_14_code 25 = .ok (.invokevirtual 271, 3) := by decide +kernel
theorem d_V_repair_28 : decode prog_1_method_14_code 28 = .ok (.aload_n 0, 1) := by decide +kernel
theorem d_V_repair_29 : decode prog_1_method_14_code 29 = .ok (.getfield 51, 3) := by decide +kernel
theorem d_V_repair_32 : decode prog_1_method_14_code 32 = .ok (.invokevirtual 274, 3) := by decide +kernel
theorem d_V_repair_35 : decode prog_1_method_14_code 35 = .ok (.aload_n 0, 1) := by decide +kernel
theorem d_V_repair_36 : decode prog_1_method_14_code 36 = .ok (.getfield 51, 3) := by decide +kernel
theorem d_V_repair_39 : decode prog_1_method_14_code 39 = .ok (.invokevirtual 277, 3) := by decide +kernel
theorem d_V_repair_42 : decode prog_1_method_14_code 42 = .ok (.aload_n 0, 1) := by decide +kernel
theorem d_V_repair_43 : decode prog_1_method_14_code 43 = .ok (.getfield 51, 3) := by decide +kernel
theorem d_V_repair_46 : decode prog_1_method_14_code 46 = .ok (.iconst 2, 1) := by decide +kernel
theorem d_V_repair_47 : decode prog_1_method_14_code 47 = .ok (.iconst 1, 1) := by decide +kernel
theorem d_V_repair_48 : decode prog_1_method_14_code 48 = .ok (.invokevirtual 280, 3) := by decide +kernel
theorem d_V_repair_51 : decode prog_1_method_14_code 51 = .ok (.aload_n 0, 1) := by decide +kernel
theorem d_V_repair_52 : decode prog_1_method_14_code 52 = .ok (.getfield 51, 3) := by decide +kernel
theorem d_V_repair_55 : decode prog_1_method_14_code 55 = .ok (.invokevirtual 283, 3) := by decide +kernel
theorem d_V_repair_58 : decode prog_1_method_14_code 58 = .ok (.aload_n 0, 1) := by decide +kernel
theorem d_V_repair_59 : decode prog_1_method_14_code 59 = .ok (.getfield 21, 3) := by decide +kernel
theorem d_V_repair_62 : decode prog_1_method_14_code 62 = .ok (.iconst 0, 1) := by decide +kernel
