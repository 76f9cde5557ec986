theorem d_V_repair_63 : decode prog_1_method_14_code 63 = .ok (.putfield 286, 3) := by decide +kernel
theorem d_V_repair_66 : decode prog_1_method_14_code 66 = .ok (.aload_n 0, 1) := by decide +kernel
theorem d_V_repair_67 : decode prog_1_method_14_code 67 = .ok (.getfield 51, 3) := by decide +kernel
theorem d_V_repair_70 : decode prog_1_method_14_code 70 = .ok (.getfield 289, 3) := by decide +kernel
theorem d_V_repair_73 : decode prog_1_method_14_code 73 = .ok (.ireturn, 1) := by decide +kernel
theorem d_V_isOnDisk_0 : decode prog_1_method_28_code 0 = .ok (.iload_n 0, 1) := by decide +kernel
theorem d_V_isOnDisk_1 : decode prog_1_method_28_code 1 = .ok (.ifCond .lt 23, 3) := by decide +kernel
theorem d_V_isOnDisk_4 : decode prog_1_method_28_code 4 = .ok (.iload_n 0, 1) := by decide +kernel
theorem d_V_isOnDisk_5 : decode prog_1_method_28_code 5 = .ok (.bipush 70, 2) := by decide +kernel
theorem d_V_isOnDisk_7 : decode prog_1_method_28_code 7 = .ok (.if_icmp .ge 17, 3) := by decide +kernel
theorem d_V_isOnDisk_10 : decode prog_1_method_28_code 10 = .ok (.iload_n 1, 1) := by decide +kernel
theorem d_V_isOnDisk_11 : decode prog_1_method_28_code 11 = .ok (.ifCond .lt 13, 3) := by decide +kernel
theorem d_V_isOnDisk_14 : decode prog_1_method_28_code 14 = .ok (.iload_n 1, 1) := by decide +kernel
theorem d_V_isOnDisk_15 : decode prog_1_method_28_code 15 = .ok (.bipush 32, 2) := by decide +kernel
theorem d_V_isOnDisk_17 : decode prog_1_method_28_code 17 = .ok (.if_icmp .ge 7, 3) := by decide +kernel
theorem d_V_isOnDisk_20 : decode prog_1_method_28_code 20 = .ok (.iconst 1, 1) := by decide +kernel
theorem d_V_isOnDisk_21 : decode prog_1_method_28_code 21 = .ok (.goto 4, 3) := by decide +kernel
theorem d_V_isOnDisk_24 : decode prog_1_method_28_code 24 = .ok (.iconst 0, 1) := by decide +kernel
theorem d_V_isOnDisk_25 : decode prog_1_method_28_code 25 = .ok (.ireturn, 1) := by decide +kernel
theorem d_V_octet_0 : decode prog_1_method_15_code 0 = .ok (.iload_n 1, 1) := by decide +kernel
theorem d_V_octet_1 : decode prog_1_method_15_code 1 = .ok (.iload_n 2, 1) := by decide +kernel
theorem d_V_octet_2 : decode prog_1_method_15_code 2 = .ok (.invokestatic 292, 3) := by decide +kernel
theorem d_V_octet_5 : decode prog_1_method_15_code 5 = .ok (.ifCond .eq 19, 3) := by decide +kernel
theorem d_V_octet_8 : decode prog_1_method_15_code 8 = .ok (.aload_n 0, 1) := by decide +kernel
theorem d_V_octet_9 : decode prog_1_method_15_code 9 = .ok (.getfield 21, 3) := by decide +kernel
theorem d_V_octet_12 : decode prog_1_method_15_code 12 = .ok (.iload_n 1, 1) := by decide +kernel
theorem d_V_octet_13 : decode prog_1_method_15_code 13 = .ok (.bipush 32, 2) := by decide +kernel
theorem d_V_octet_15 : decode prog_1_method_15_code 15 = .ok (.imul, 1) := by decide +kernel
theorem d_V_octet_16 : decode prog_1_method_15_code 16 = .ok (.iload_n 2, 1) := by decide +kernel
theorem d_V_octet_17 : decode prog_1_method_15_code 17 = .ok (.iadd, 1) := by decide +kernel
theorem d_V_octet_18 : decode prog_1_method_15_code 18 = .ok (.invokevirtual 205, 3) := by decide +kernel
theorem d_V_octet_21 : decode prog_1_method_15_code 21 = .ok (.goto 4, 3) := by decide +kernel
theorem d_V_octet_24 : decode prog_1_method_15_code 24 = .ok (.iconst (-1), 1) := by decide +kernel
theorem d_V_octet_25 : decode prog_1_method_15_code 25 = .ok (.ireturn, 1) := by decide +kernel
theorem d_V_poke_0 : decode prog_1_method_16_code 0 = .ok (.iload_n 1, 1) := by decide +kernel
theorem d_V_poke_1 : decode prog_1_method_16_code 1 = .ok (.iload_n 2, 1) := by decide +kernel
theorem d_V_poke_2 : decode prog_1_method_16_code 2 = .ok (.invokestatic 292, 3) := by decide +kernel
theorem d_V_poke_5 : decode prog_1_method_16_code 5 = .ok (.ifCond .ne 5, 3) := by decide +kernel
theorem d_V_poke_8 : decode prog_1_method_16_code 8 = .ok (.iconst 0, 1) := by decide +kernel
theorem d_V_poke_9 : decode prog_1_method_16_code 9 = .ok (.ireturn, 1) := by decide +kernel
theorem d_V_poke_10 : decode prog_1_method_16_code 10 = .ok (.aload_n 0, 1) := by decide +kernel
theorem d_V_poke_11 : decode prog_1_method_16_code 11 = .ok (.getfield 21, 3) := by decide +kernel
theorem d_V_poke_14 : decode prog_1_method_16_code 14 = .ok (.iload_n 1, 1) := by decide +kernel
theorem d_V_poke_15 : decode prog_1_method_16_code 15 = .ok (.bipush 32, 2) := by decide +kernel
theorem d_V_poke_17 : decode prog_1_method_16_code 17 = .ok (.imul, 1) := by decide +kernel
theorem d_V_poke_18 : decode prog_1_method_16_code 18 = .ok (.iload_n 2, 1) := by decide +kernel
theorem d_V_poke_19 : decode prog_1_method_16_code 19 = .ok (.iadd, 1) := by decide +kernel
theorem d_V_poke_20 : decode prog_1_method_16_code 20 = .ok (.iload_n 3, 1) := by decide +kernel
theorem d_V_poke_21 : decode prog_1_method_16_code 21 = .ok (.invokevirtual 296, 3) := by decide +kernel
theorem d_V_poke_24 : decode prog_1_method_16_code 24 = .ok (.aload_n 0, 1) := by decide +kernel
theorem d_V_poke_25 : decode prog_1_method_16_code 25 = .ok (.getfield 21, 3) := by decide +kernel
theorem d_V_poke_28 : decode prog_1_method_16_code 28 = .ok (.iconst 1, 1) := by decide +kernel
theorem d_V_poke_29 : decode prog_1_method_16_code 29 = .ok (.putfield 286, 3) := by decide +kernel
theorem d_V_poke_32 : decode prog_1_method_16_code 32 = .ok (.aload_n 0, 1) := by decide +kernel
theorem d_V_poke_33 : decode prog_1_method_16_code 33 = .ok (.getfield 12, 3) := by decide +kernel
theorem d_V_poke_36 : decode prog_1_method_16_code 36 = .ok (.invokevirtual 271, 3) := by decide +kernel
theorem d_V_poke_39 : decode prog_1_method_16_code 39 = .ok (.iconst 1, 1) := by decide +kernel
theorem d_V_poke_40 : decode prog_1_method_16_code 40 = .ok (.ireturn, 1) := by decide +kernel
theorem d_Table_countFree_0 : decode prog_7_method_7_code 0 = .ok (.iconst 0, 1) := by decide +kernel
theorem d_Table_countFree_1 : decode prog_7_method_7_code 1 = .ok (.istore_n 1, 1) := by decide +kernel
theorem d_Table_countFree_2 : decode prog_7_method_7_code 2 = .ok (.iconst 2, 1) := by decide +kernel
theorem d_Table_countFree_3 : decode prog_7_method_7_code 3 = .ok (.istore_n 2, 1) := by decide +kernel
theorem d_Table_countFree_4 : decode prog_7_method_7_code 4 = .ok (.iload_n 2, 1) := by decide +kernel
theorem d_Table_countFree_5 : decode prog_7_method_7_code 5 = .ok (.bipush 64, 2) := by decide +kernel
theorem d_Table_countFree_7 : decode prog_7_method_7_code 7 = .ok (.if_icmp .ge 20, 3) := by decide +kernel
theorem d_Table_countFree_10 : decode prog_7_method_7_code 10 = .ok (.aload_n 0, 1) := by decide +kernel
theorem d_Table_countFree_11 : decode prog_7_method_7_code 11 = .ok (.iload_n 2, 1) := by decide +kernel
theorem d_Table_countFree_12 : decode prog_7_method_7_code 12 = .ok (.invokevirtual 28, 3) := by decide +kernel
theorem d_Table_countFree_15 : decode prog_7_method_7_code 15 = .ok (.ifCond .eq 6, 3) := by decide +kernel
theorem d_Table_countFree_18 : decode prog_7_method_7_code 18 = .ok (.iinc 1 1, 3) := by decide +kernel
theorem d_Table_countFree_21 : decode prog_7_method_7_code 21 = .ok (.iinc 2 1, 3) := by decide +kernel
theorem d_Table_countFree_24 : decode prog_7_method_7_code 24 = .ok (.goto (-20), 3) := by decide +kernel
theorem d_Table_countFree_27 : decode prog_7_method_7_code 27 = .ok (.iload_n 1, 1) := by decide +kernel
theorem d_Table_countFree_28 : decode prog_7_method_7_code 28 = .ok (.ireturn, 1) := by decide +kernel
theorem d_V_look_0 : decode prog_1_method_17_code 0 = .ok (.iload_n 1, 1) := by decide +kernel
theorem d_V_look_1 : decode prog_1_method_17_code 1 = .ok (.tableswitch 83 0 4 #[35, 51, 59, 67, 75], 35) := by decide +kernel
theorem d_V_look_36 : decode prog_1_method_17_code 36 = .ok (.aload_n 0, 1) := by decide +kernel
theorem d_V_look_37 : decode prog_1_method_17_code 37 = .ok (.getfield 21, 3) := by decide +kernel
theorem d_V_look_40 : decode prog_1_method_17_code 40 = .ok (.getfield 262, 3) := by decide +kernel
theorem d_V_look_43 : decode prog_1_method_17_code 43 = .ok (.ifCond .eq 7, 3) := by decide +kernel
theorem d_V_look_46 : decode prog_1_method_17_code 46 = .ok (.iconst 1, 1) := by decide +kernel
theorem d_V_look_47 : decode prog_1_method_17_code 47 = .ok (.goto 4, 3) := by decide +kernel
theorem d_V_look_50 : decode prog_1_method_17_code 50 = .ok (.iconst 0, 1) := by decide +kernel
theorem d_V_look_51 : decode prog_1_method_17_code 51 = .ok (.ireturn, 1) := by decide +kernel
theorem d_V_look_52 : decode prog_1_method_17_code 52 = .ok (.aload_n 0, 1) := by decide +kernel
theorem d_V_look_53 : decode prog_1_method_17_code 53 = .ok (.getfield 21, 3) := by decide +kernel
theorem d_V_look_56 : decode prog_1_method_17_code 56 = .ok (.getfield 299, 3) := by decide +kernel
theorem d_V_look_59 : decode prog_1_method_17_code 59 = .ok (.ireturn, 1) := by decide +kernel
theorem d_V_look_60 : decode prog_1_method_17_code 60 = .ok (.aload_n 0, 1) := by decide +kernel
theorem d_V_look_61 : decode prog_1_method_17_code 61 = .ok (.getfield 30, 3) := by decide +kernel
theorem d_V_look_64 : decode prog_1_method_17_code 64 = .ok (.invokevirtual 302, 3) := by decide +kernel
theorem d_V_look_67 : decode prog_1_method_17_code 67 = .ok (.ireturn, 1) := by decide +kernel
theorem d_V_look_68 : decode prog_1_method_17_code 68 = .ok (.aload_n 0, 1) := by decide +kernel
theorem d_V_look_69 : decode prog_1_method_17_code 69 = .ok (.getfield 12, 3) := by decide +kernel
theorem d_V_look_72 : decode prog_1_method_17_code 72 = .ok (.getfield 87, 3) := by decide +kernel
theorem d_V_look_75 : decode prog_1_method_17_code 75 = .ok (.ireturn, 1) := by decide +kernel
theorem d_V_look_76 : decode prog_1_method_17_code 76 = .ok (.aload_n 0, 1) := by decide +kernel
theorem d_V_look_77 : decode prog_1_method_17_code 77 = .ok (.getfield 12, 3) := by decide +kernel
theorem d_V_look_80 : decode prog_1_method_17_code 80 = .ok (.getfield 305, 3) := by decide +kernel
theorem d_V_look_83 : decode prog_1_method_17_code 83 = .ok (.ireturn, 1) := by decide +kernel
theorem d_V_look_84 : decode prog_1_method_17_code 84 = .ok (.iload_n 1, 1) := by decide +kernel
theorem d_V_look_85 : decode prog_1_method_17_code 85 = .ok (.bipush 10, 2) := by decide +kernel
theorem d_V_look_87 : decode prog_1_method_17_code 87 = .ok (.if_icmp .lt 31, 3) := by decide +kernel
theorem d_V_look_90 : decode prog_1_method_17_code 90 = .ok (.aload_n 0, 1) := by decide +kernel
theorem d_V_look_91 : decode prog_1_method_17_code 91 = .ok (.getfield 12, 3) := by decide +kernel
theorem d_V_look_94 : decode prog_1_method_17_code 94 = .ok (.iload_n 1, 1) := by decide +kernel
theorem d_V_look_95 : decode prog_1_method_17_code 95 = .ok (.bipush 10, 2) := by decide +kernel
theorem d_V_look_97 : decode prog_1_method_17_code 97 = .ok (.isub, 1) := by decide +kernel
theorem d_V_look_98 : decode prog_1_method_17_code 98 = .ok (.invokevirtual 173, 3) := by decide +kernel
theorem d_V_look_101 : decode prog_1_method_17_code 101 = .ok (.ifCond .eq 17, 3) := by decide +kernel
theorem d_V_look_104 : decode prog_1_method_17_code 104 = .ok (.aload_n 0, 1) := by decide +kernel
theorem d_V_look_105 : decode prog_1_method_17_code 105 = .ok (.getfield 12, 3) := by decide +kernel
theorem d_V_look_108 : decode prog_1_method_17_code 108 = .ok (.iload_n 1, 1) := by decide +kernel
theorem d_V_look_109 : decode prog_1_method_17_code 109 = .ok (.bipush 10, 2) := by decide +kernel
theorem d_V_look_111 : decode prog_1_method_17_code 111 = .ok (.isub, 1) := by decide +kernel
theorem d_V_look_112 : decode prog_1_method_17_code 112 = .ok (.invokevirtual 187, 3) := by decide +kernel
theorem d_V_look_115 : decode prog_1_method_17_code 115 = .ok (.goto 4, 3) := by decide +kernel
theorem d_V_look_118 : decode prog_1_method_17_code 118 = .ok (.iconst (-1), 1) := by decide +kernel
theorem d_V_look_119 : decode prog_1_method_17_code 119 = .ok (.ireturn, 1) := by decide +kernel
theorem d_M_type_0 : decode prog_9_method_31_code 0 = .ok (.aload_n 0, 1) := by decide +kernel
theorem d_M_type_1 : decode prog_9_method_31_code 1 = .ok (.iconst 0, 1) := by decide +kernel
theorem d_M_type_2 : decode prog_9_method_31_code 2 = .ok (.putfield 57, 3) := by decide +kernel
theorem d_M_type_5 : decode prog_9_method_31_code 5 = .ok (.iload_n 1, 1) := by decide +kernel
theorem d_M_type_6 : decode prog_9_method_31_code 6 = .ok (.bipush 33, 2) := by decide +kernel
theorem d_M_type_8 : decode prog_9_method_31_code 8 = .ok (.if_icmp .lt 24, 3) := by decide +kernel
theorem d_M_type_11 : decode prog_9_method_31_code 11 = .ok (.iload_n 1, 1) := by decide +kernel
theorem d_M_type_12 : decode prog_9_method_31_code 12 = .ok (.bipush 126, 2) := by decide +kernel
theorem d_M_type_14 : decode prog_9_method_31_code 14 = .ok (.if_icmp .gt 18, 3) := by decide +kernel
theorem d_M_type_17 : decode prog_9_method_31_code 17 = .ok (.iload_n 1, 1) := by decide +kernel
theorem d_M_type_18 : decode prog_9_method_31_code 18 = .ok (.bipush 47, 2) := by decide +kernel
theorem d_M_type_20 : decode prog_9_method_31_code 20 = .ok (.if_icmp .eq 12, 3) := by decide +kernel
theorem d_M_type_23 : decode prog_9_method_31_code 23 = .ok (.aload_n 0, 1) := by decide +kernel
theorem d_M_type_24 : decode prog_9_method_31_code 24 = .ok (.getfield 67, 3) := by decide +kernel
theorem d_M_type_27 : decode prog_9_method_31_code 27 = .ok (.bipush 26, 2) := by decide +kernel
theorem d_M_type_29 : decode prog_9_method_31_code 29 = .ok (.if_icmp .ne 5, 3) := by decide +kernel
theorem d_M_type_32 : decode prog_9_method_31_code 32 = .ok (.iconst 0, 1) := by decide +kernel
theorem d_M_type_33 : decode prog_9_method_31_code 33 = .ok (.ireturn, 1) := by decide +kernel
theorem d_M_type_34 : decode prog_9_method_31_code 34 = .ok (.aload_n 0, 1) := by decide +kernel
theorem d_M_type_35 : decode prog_9_method_31_code 35 = .ok (.getfield 21, 3) := by decide +kernel
theorem d_M_type_38 : decode prog_9_method_31_code 38 = .ok (.aload_n 0, 1) := by decide +kernel
theorem d_M_type_39 : decode prog_9_method_31_code 39 = .ok (.getfield 67, 3) := by decide +kernel
theorem d_M_type_42 : decode prog_9_method_31_code 42 = .ok (.iload_n 1, 1) := by decide +kernel
theorem d_M_type_43 : decode prog_9_method_31_code 43 = .ok (.iastore, 1) := by decide +kernel
theorem d_M_type_44 : decode prog_9_method_31_code 44 = .ok (.aload_n 0, 1) := by decide +kernel
theorem d_M_type_45 : decode prog_9_method_31_code 45 = .ok (.dup, 1) := by decide +kernel
theorem d_M_type_46 : decode prog_9_method_31_code 46 = .ok (.getfield 67, 3) := by decide +kernel
theorem d_M_type_49 : decode prog_9_method_31_code 49 = .ok (.iconst 1, 1) := by decide +kernel
theorem d_M_type_50 : decode prog_9_method_31_code 50 = .ok (.iadd, 1) := by decide +kernel
theorem d_M_type_51 : decode prog_9_method_31_code 51 = .ok (.putfield 67, 3) := by decide +kernel
theorem d_M_type_54 : decode prog_9_method_31_code 54 = .ok (.iconst 1, 1) := by decide +kernel
theorem d_M_type_55 : decode prog_9_method_31_code 55 = .ok (.ireturn, 1) := by decide +kernel
theorem d_M_ready_0 : decode prog_9_method_30_code 0 = .ok (.aload_n 0, 1) := by decide +kernel
theorem d_M_ready_1 : decode prog_9_method_30_code 1 = .ok (.iconst 0, 1) := by decide +kernel
theorem d_M_ready_2 : decode prog_9_method_30_code 2 = .ok (.putfield 64, 3) := by decide +kernel
theorem d_M_ready_5 : decode prog_9_method_30_code 5 = .ok (.aload_n 0, 1) := by decide +kernel
theorem d_M_ready_6 : decode prog_9_method_30_code 6 = .ok (.aload_n 0, 1) := by decide +kernel
theorem d_M_ready_7 : decode prog_9_method_30_code 7 = .ok (.getfield 13, 3) := by decide +kernel
theorem d_M_ready_10 : decode prog_9_method_30_code 10 = .ok (.ifCond .eq 14, 3) := by decide +kernel
theorem d_M_ready_13 : decode prog_9_method_30_code 13 = .ok (.aload_n 0, 1) := by decide +kernel
theorem d_M_ready_14 : decode prog_9_method_30_code 14 = .ok (.getfield 141, 3) := by decide +kernel
theorem d_M_ready_17 : decode prog_9_method_30_code 17 = .ok (.ifCond .ne 7, 3) := by decide +kernel
theorem d_M_ready_20 : decode prog_9_method_30_code 20 = .ok (.iconst 0, 1) := by decide +kernel
theorem d_M_ready_21 : decode prog_9_method_30_code 21 = .ok (.goto 4, 3) := by decide +kernel
theorem d_M_ready_24 : decode prog_9_method_30_code 24 = .ok (.iconst 1, 1) := by decide +kernel
theorem d_M_ready_25 : decode prog_9_method_30_code 25 = .ok (.putfield 57, 3) := by decide +kernel
theorem d_M_ready_28 : decode prog_9_method_30_code 28 = .ok (.aload_n 0, 1) := by decide +kernel
theorem d_M_ready_29 : decode prog_9_method_30_code 29 = .ok (.getfield 57, 3) := by decide +kernel
theorem d_M_ready_32 : decode prog_9_method_30_code 32 = .ok (.ifCond .ne 7, 3) := by decide +kernel
theorem d_M_ready_35 : decode prog_9_method_30_code 35 = .ok (.iconst 1, 1) := by decide +kernel
theorem d_M_ready_36 : decode prog_9_method_30_code 36 = .ok (.goto 4, 3) := by decide +kernel
theorem d_M_ready_39 : decode prog_9_method_30_code 39 = .ok (.iconst 0, 1) := by decide +kernel
theorem d_M_ready_40 : decode prog_9_method_30_code 40 = .ok (.ireturn, 1) := by decide +kernel
theorem d_M_in_0 : decode prog_9_method_3_code 0 = .ok (.iload_n 0, 1) := by decide +kernel
theorem d_M_in_1 : decode prog_9_method_3_code 1 = .ok (.iload_n 1, 1) := by decide +kernel
theorem d_M_in_2 : decode prog_9_method_3_code 2 = .ok (.if_icmp .lt 12, 3) := by decide +kernel
theorem d_M_in_5 : decode prog_9_method_3_code 5 = .ok (.iload_n 0, 1) := by decide +kernel
theorem d_M_in_6 : decode prog_9_method_3_code 6 = .ok (.iload_n 2, 1) := by decide +kernel
theorem d_M_in_7 : decode prog_9_method_3_code 7 = .ok (.if_icmp .gt 7, 3) := by decide +kernel
theorem d_M_in_10 : decode prog_9_method_3_code 10 = .ok (.iconst 1, 1) := by decide +kernel
theorem d_M_in_11 : decode prog_9_method_3_code 11 = .ok (.goto 4, 3) := by decide +kernel
theorem d_M_in_14 : decode prog_9_method_3_code 14 = .ok (.iconst 0, 1) := by decide +kernel
theorem d_M_in_15 : decode prog_9_method_3_code 15 = .ok (.ireturn, 1) := by decide +kernel
theorem d_M_numberAt_0 : decode prog_9_method_5_code 0 = .ok (.aload_n 0, 1) := by decide +kernel
theorem d_M_numberAt_1 : decode prog_9_method_5_code 1 = .ok (.getfield 7, 3) := by decide +kernel
theorem d_M_numberAt_4 : decode prog_9_method_5_code 4 = .ok (.iload_n 1, 1) := by decide +kernel
theorem d_M_numberAt_5 : decode prog_9_method_5_code 5 = .ok (.iaload, 1) := by decide +kernel
theorem d_M_numberAt_6 : decode prog_9_method_5_code 6 = .ok (.sipush 256, 3) := by decide +kernel
theorem d_M_numberAt_9 : decode prog_9_method_5_code 9 = .ok (.aload_n 0, 1) := by decide +kernel
theorem d_M_numberAt_10 : decode prog_9_method_5_code 10 = .ok (.getfield 7, 3) := by decide +kernel
theorem d_M_numberAt_13 : decode prog_9_method_5_code 13 = .ok (.iload_n 1, 1) := by decide +kernel
theorem d_M_numberAt_14 : decode prog_9_method_5_code 14 = .ok (.iconst 1, 1) := by decide +kernel
theorem d_M_numberAt_15 : decode prog_9_method_5_code 15 = .ok (.iadd, 1) := by decide +kernel
theorem d_M_numberAt_16 : decode prog_9_method_5_code 16 = .ok (.iaload, 1) := by decide +kernel
theorem d_M_numberAt_17 : decode prog_9_method_5_code 17 = .ok (.imul, 1) := by decide +kernel
theorem d_M_numberAt_18 : decode prog_9_method_5_code 18 = .ok (.iadd, 1) := by decide +kernel
theorem d_M_numberAt_19 : decode prog_9_method_5_code 19 = .ok (.ireturn, 1) := by decide +kernel
theorem d_M_cell_0 : decode prog_9_method_6_code 0 = .ok (.aload_n 0, 1) := by decide +kernel
theorem d_M_cell_1 : decode prog_9_method_6_code 1 = .ok (.iconst 2, 1) := by decide +kernel
theorem d_M_cell_2 : decode prog_9_method_6_code 2 = .ok (.iload_n 1, 1) := by decide +kernel
theorem d_M_cell_3 : decode prog_9_method_6_code 3 = .ok (.imul, 1) := by decide +kernel
theorem d_M_cell_4 : decode prog_9_method_6_code 4 = .ok (.invokevirtual 60, 3) := by decide +kernel
theorem d_M_cell_7 : decode prog_9_method_6_code 7 = .ok (.ireturn, 1) := by decide +kernel
theorem d_M_cluster_0 : decode prog_9_method_12_code 0 = .ok (.iload_n 1, 1) := by decide +kernel
theorem d_M_cluster_1 : decode prog_9_method_12_code 1 = .ok (.istore_n 3, 1) := by decide +kernel
theorem d_M_cluster_2 : decode prog_9_method_12_code 2 = .ok (.iconst 0, 1) := by decide +kernel
theorem d_M_cluster_3 : decode prog_9_method_12_code 3 = .ok (.istore 4, 2) := by decide +kernel
theorem d_M_cluster_5 : decode prog_9_method_12_code 5 = .ok (.iload 4, 2) := by decide +kernel
theorem d_M_cluster_7 : decode prog_9_method_12_code 7 = .ok (.iload_n 2, 1) := by decide +kernel
theorem d_M_cluster_8 : decode prog_9_method_12_code 8 = .ok (.if_icmp .ge 25, 3) := by decide +kernel
theorem d_M_cluster_11 : decode prog_9_method_12_code 11 = .ok (.iload_n 3, 1) := by decide +kernel
theorem d_M_cluster_12 : decode prog_9_method_12_code 12 = .ok (.iconst 2, 1) := by decide +kernel
theorem d_M_cluster_13 : decode prog_9_method_12_code 13 = .ok (.bipush 63, 2) := by decide +kernel
theorem d_M_cluster_15 : decode prog_9_method_12_code 15 = .ok (.invokestatic 86, 3) := by decide +kernel
theorem d_M_cluster_18 : decode prog_9_method_12_code 18 = .ok (.ifCond .eq 15, 3) := by decide +kernel
theorem d_M_cluster_21 : decode prog_9_method_12_code 21 = .ok (.aload_n 0, 1) := by decide +kernel
theorem d_M_cluster_22 : decode prog_9_method_12_code 22 = .ok (.iload_n 3, 1) := by decide +kernel
theorem d_M_cluster_23 : decode prog_9_method_12_code 23 = .ok (.invokevirtual 80, 3) := by decide +kernel
theorem d_M_cluster_26 : decode prog_9_method_12_code 26 = .ok (.istore_n 3, 1) := by decide +kernel
theorem d_M_cluster_27 : decode prog_9_method_12_code 27 = .ok (.iinc 4 1, 3) := by decide +kernel
theorem d_M_cluster_30 : decode prog_9_method_12_code 30 = .ok (.goto (-25), 3) := by decide +kernel
theorem d_M_cluster_33 : decode prog_9_method_12_code 33 = .ok (.iload_n 3, 1) := by decide +kernel
theorem d_M_cluster_34 : decode prog_9_method_12_code 34 = .ok (.iconst 2, 1) := by decide +kernel
theorem d_M_cluster_35 : decode prog_9_method_12_code 35 = .ok (.bipush 63, 2) := by decide +kernel
theorem d_M_cluster_37 : decode prog_9_method_12_code 37 = .ok (.invokestatic 86, 3) := by decide +kernel
theorem d_M_cluster_40 : decode prog_9_method_12_code 40 = .ok (.ifCond .eq 7, 3) := by decide +kernel
theorem d_M_cluster_43 : decode prog_9_method_12_code 43 = .ok (.iload_n 3, 1) := by decide +kernel
theorem d_M_cluster_44 : decode prog_9_method_12_code 44 = .ok (.goto 4, 3) := by decide +kernel
theorem d_M_cluster_47 : decode prog_9_method_12_code 47 = .ok (.iconst 0, 1) := by decide +kernel
theorem d_M_cluster_48 : decode prog_9_method_12_code 48 = .ok (.ireturn, 1) := by decide +kernel
theorem d_M_length_0 : decode prog_9_method_13_code 0 = .ok (.iconst 0, 1) := by decide +kernel
theorem d_M_length_1 : decode prog_9_method_13_code 1 = .ok (.istore_n 2, 1) := by decide +kernel
theorem d_M_length_2 : decode prog_9_method_13_code 2 = .ok (.iload_n 2, 1) := by decide +kernel
theorem d_M_length_3 : decode prog_9_method_13_code 3 = .ok (.bipush 64, 2) := by decide +kernel
theorem d_M_length_5 : decode prog_9_method_13_code 5 = .ok (.if_icmp .ge 18, 3) := by decide +kernel
theorem d_M_length_8 : decode prog_9_method_13_code 8 = .ok (.aload_n 0, 1) := by decide +kernel
theorem d_M_length_9 : decode prog_9_method_13_code 9 = .ok (.iload_n 1, 1) := by decide +kernel
theorem d_M_length_10 : decode prog_9_method_13_code 10 = .ok (.iload_n 2, 1) := by decide +kernel
theorem d_M_length_11 : decode prog_9_method_13_code 11 = .ok (.invokevirtual 90, 3) := by decide +kernel
theorem d_M_length_14 : decode prog_9_method_13_code 14 = .ok (.ifCond .le 9, 3) := by decide +kernel
theorem d_M_length_17 : decode prog_9_method_13_code 17 = .ok (.iinc 2 1, 3) := by decide +kernel
theorem d_M_length_20 : decode prog_9_method_13_code 20 = .ok (.goto (-18), 3) := by decide +kernel
theorem d_M_length_23 : decode prog_9_method_13_code 23 = .ok (.iload_n 2, 1) := by decide +kernel
theorem d_M_length_24 : decode prog_9_method_13_code 24 = .ok (.ireturn, 1) := by decide +kernel
theorem d_M_place_0 : decode prog_9_method_14_code 0 = .ok (.bipush 32, 2) := by decide +kernel
theorem d_M_place_2 : decode prog_9_method_14_code 2 = .ok (.aload_n 0, 1) := by decide +kernel
theorem d_M_place_3 : decode prog_9_method_14_code 3 = .ok (.iload_n 1, 1) := by decide +kernel
theorem d_M_place_4 : decode prog_9_method_14_code 4 = .ok (.iload_n 2, 1) := by decide +kernel
theorem d_M_place_5 : decode prog_9_method_14_code 5 = .ok (.iconst 2, 1) := by decide +kernel
theorem d_M_place_6 : decode prog_9_method_14_code 6 = .ok (.idiv, 1) := by decide +kernel
theorem d_M_place_7 : decode prog_9_method_14_code 7 = .ok (.invokevirtual 90, 3) := by decide +kernel
theorem d_M_place_10 : decode prog_9_method_14_code 10 = .ok (.bipush 6, 2) := by decide +kernel
theorem d_M_place_12 : decode prog_9_method_14_code 12 = .ok (.iadd, 1) := by decide +kernel
theorem d_M_place_13 : decode prog_9_method_14_code 13 = .ok (.imul, 1) := by decide +kernel
theorem d_M_place_14 : decode prog_9_method_14_code 14 = .ok (.bipush 16, 2) := by decide +kernel
theorem d_M_place_16 : decode prog_9_method_14_code 16 = .ok (.iload_n 2, 1) := by decide +kernel
theorem d_M_place_17 : decode prog_9_method_14_code 17 = .ok (.iconst 2, 1) := by decide +kernel
theorem d_M_place_18 : decode prog_9_method_14_code 18 = .ok (.irem, 1) := by decide +kernel
theorem d_M_place_19 : decode prog_9_method_14_code 19 = .ok (.imul, 1) := by decide +kernel
theorem d_M_place_20 : decode prog_9_method_14_code 20 = .ok (.iadd, 1) := by decide +kernel
theorem d_M_place_21 : decode prog_9_method_14_code 21 = .ok (.ireturn, 1) := by decide +kernel
theorem d_M_isFree_0 : decode prog_9_method_15_code 0 = .ok (.aload_n 0, 1) := by decide +kernel
theorem d_M_isFree_1 : decode prog_9_method_15_code 1 = .ok (.getfield 7, 3) := by decide +kernel
theorem d_M_isFree_4 : decode prog_9_method_15_code 4 = .ok (.iload_n 1, 1) := by decide +kernel
theorem d_M_isFree_5 : decode prog_9_method_15_code 5 = .ok (.iaload, 1) := by decide +kernel
theorem d_M_isFree_6 : decode prog_9_method_15_code 6 = .ok (.ifCond .eq 15, 3) := by decide +kernel
theorem d_M_isFree_9 : decode prog_9_method_15_code 9 = .ok (.aload_n 0, 1) := by decide +kernel
theorem d_M_isFree_10 : decode prog_9_method_15_code 10 = .ok (.getfield 7, 3) := by decide +kernel
theorem d_M_isFree_13 : decode prog_9_method_15_code 13 = .ok (.iload_n 1, 1) := by decide +kernel
theorem d_M_isFree_14 : decode prog_9_method_15_code 14 = .ok (.iaload, 1) := by decide +kernel
theorem d_M_isFree_15 : decode prog_9_method_15_code 15 = .ok (.sipush 229, 3) := by decide +kernel
theorem d_M_isFree_18 : decode prog_9_method_15_code 18 = .ok (.if_icmp .ne 7, 3) := by decide +kernel
theorem d_M_isFree_21 : decode prog_9_method_15_code 21 = .ok (.iconst 1, 1) := by decide +kernel
theorem d_M_isFree_22 : decode prog_9_method_15_code 22 = .ok (.goto 4, 3) := by decide +kernel
theorem d_M_isFree_25 : decode prog_9_method_15_code 25 = .ok (.iconst 0, 1) := by decide +kernel
theorem d_M_isFree_26 : decode prog_9_method_15_code 26 = .ok (.ireturn, 1) := by decide +kernel
theorem d_M_isNamed_0 : decode prog_9_method_16_code 0 = .ok (.aload_n 0, 1) := by decide +kernel
theorem d_M_isNamed_1 : decode prog_9_method_16_code 1 = .ok (.iload_n 1, 1) := by decide +kernel
theorem d_M_isNamed_2 : decode prog_9_method_16_code 2 = .ok (.invokevirtual 94, 3) := by decide +kernel
theorem d_M_isNamed_5 : decode prog_9_method_16_code 5 = .ok (.ifCond .ne 33, 3) := by decide +kernel
theorem d_M_isNamed_8 : decode prog_9_method_16_code 8 = .ok (.aload_n 0, 1) := by decide +kernel
theorem d_M_isNamed_9 : decode prog_9_method_16_code 9 = .ok (.getfield 7, 3) := by decide +kernel
theorem d_M_isNamed_12 : decode prog_9_method_16_code 12 = .ok (.iload_n 1, 1) := by decide +kernel
theorem d_M_isNamed_13 : decode prog_9_method_16_code 13 = .ok (.bipush 6, 2) := by decide +kernel
theorem d_M_isNamed_15 : decode prog_9_method_16_code 15 = .ok (.iadd, 1) := by decide +kernel
theorem d_M_isNamed_16 : decode prog_9_method_16_code 16 = .ok (.iaload, 1) := by decide +kernel
theorem d_M_isNamed_17 : decode prog_9_method_16_code 17 = .ok (.iconst 1, 1) := by decide +kernel
theorem d_M_isNamed_18 : decode prog_9_method_16_code 18 = .ok (.if_icmp .eq 16, 3) := by decide +kernel
theorem d_M_isNamed_21 : decode prog_9_method_16_code 21 = .ok (.aload_n 0, 1) := by decide +kernel
theorem d_M_isNamed_22 : decode prog_9_method_16_code 22 = .ok (.getfield 7, 3) := by decide +kernel
theorem d_M_isNamed_25 : decode prog_9_method_16_code 25 = .ok (.iload_n 1, 1) := by decide +kernel
theorem d_M_isNamed_26 : decode prog_9_method_16_code 26 = .ok (.bipush 6, 2) := by decide +kernel
theorem d_M_isNamed_28 : decode prog_9_method_16_code 28 = .ok (.iadd, 1) := by decide +kernel
theorem d_M_isNamed_29 : decode prog_9_method_16_code 29 = .ok (.iaload, 1) := by decide +kernel
theorem d_M_isNamed_30 : decode prog_9_method_16_code 30 = .ok (.iconst 2, 1) := by decide +kernel
theorem d_M_isNamed_31 : decode prog_9_method_16_code 31 = .ok (.if_icmp .ne 7, 3) := by decide +kernel
theorem d_M_isNamed_34 : decode prog_9_method_16_code 34 = .ok (.iconst 1, 1) := by decide +kernel
theorem d_M_isNamed_35 : decode prog_9_method_16_code 35 = .ok (.goto 4, 3) := by decide +kernel
theorem d_M_isNamed_38 : decode prog_9_method_16_code 38 = .ok (.iconst 0, 1) := by decide +kernel
theorem d_M_isNamed_39 : decode prog_9_method_16_code 39 = .ok (.ireturn, 1) := by decide +kernel
theorem d_M_summed_0 : decode prog_9_method_17_code 0 = .ok (.iload_n 0, 1) := by decide +kernel
theorem d_M_summed_1 : decode prog_9_method_17_code 1 = .ok (.iconst 2, 1) := by decide +kernel
theorem d_M_summed_2 : decode prog_9_method_17_code 2 = .ok (.imul, 1) := by decide +kernel
theorem d_M_summed_3 : decode prog_9_method_17_code 3 = .ok (.iload_n 0, 1) := by decide +kernel
theorem d_M_summed_4 : decode prog_9_method_17_code 4 = .ok (.sipush 128, 3) := by decide +kernel
theorem d_M_summed_7 : decode prog_9_method_17_code 7 = .ok (.idiv, 1) := by decide +kernel
theorem d_M_summed_8 : decode prog_9_method_17_code 8 = .ok (.iadd, 1) := by decide +kernel
theorem d_M_summed_9 : decode prog_9_method_17_code 9 = .ok (.iload_n 1, 1) := by decide +kernel
theorem d_M_summed_10 : decode prog_9_method_17_code 10 = .ok (.iadd, 1) := by decide +kernel
theorem d_M_summed_11 : decode prog_9_method_17_code 11 = .ok (.sipush 255, 3) := by decide +kernel
theorem d_M_summed_14 : decode prog_9_method_17_code 14 = .ok (.iand, 1) := by decide +kernel
theorem d_M_summed_15 : decode prog_9_method_17_code 15 = .ok (.ireturn, 1) := by decide +kernel
theorem d_M_isPart_0 : decode prog_9_method_18_code 0 = .ok (.aload_n 0, 1) := by decide +kernel
theorem d_M_isPart_1 : decode prog_9_method_18_code 1 = .ok (.getfield 7, 3) := by decide +kernel
theorem d_M_isPart_4 : decode prog_9_method_18_code 4 = .ok (.iload_n 1, 1) := by decide +kernel
theorem d_M_isPart_5 : decode prog_9_method_18_code 5 = .ok (.bipush 6, 2) := by decide +kernel
theorem d_M_isPart_7 : decode prog_9_method_18_code 7 = .ok (.iadd, 1) := by decide +kernel
theorem d_M_isPart_8 : decode prog_9_method_18_code 8 = .ok (.iaload, 1) := by decide +kernel
theorem d_M_isPart_9 : decode prog_9_method_18_code 9 = .ok (.bipush 15, 2) := by decide +kernel
theorem d_M_isPart_11 : decode prog_9_method_18_code 11 = .ok (.if_icmp .ne 30, 3) := by decide +kernel
theorem d_M_isPart_14 : decode prog_9_method_18_code 14 = .ok (.aload_n 0, 1) := by decide +kernel
theorem d_M_isPart_15 : decode prog_9_method_18_code 15 = .ok (.getfield 7, 3) := by decide +kernel
theorem d_M_isPart_18 : decode prog_9_method_18_code 18 = .ok (.iload_n 1, 1) := by decide +kernel
theorem d_M_isPart_19 : decode prog_9_method_18_code 19 = .ok (.iaload, 1) := by decide +kernel
theorem d_M_isPart_20 : decode prog_9_method_18_code 20 = .ok (.iload_n 2, 1) := by decide +kernel
theorem d_M_isPart_21 : decode prog_9_method_18_code 21 = .ok (.if_icmp .ne 20, 3) := by decide +kernel
theorem d_M_isPart_24 : decode prog_9_method_18_code 24 = .ok (.aload_n 0, 1) := by decide +kernel
theorem d_M_isPart_25 : decode prog_9_method_18_code 25 = .ok (.getfield 7, 3) := by decide +kernel
theorem d_M_isPart_28 : decode prog_9_method_18_code 28 = .ok (.iload_n 1, 1) := by decide +kernel
theorem d_M_isPart_29 : decode prog_9_method_18_code 29 = .ok (.bipush 7, 2) := by decide +kernel
theorem d_M_isPart_31 : decode prog_9_method_18_code 31 = .ok (.iadd, 1) := by decide +kernel
theorem d_M_isPart_32 : decode prog_9_method_18_code 32 = .ok (.iaload, 1) := by decide +kernel
theorem d_M_isPart_33 : decode prog_9_method_18_code 33 = .ok (.iload_n 3, 1) := by decide +kernel
theorem d_M_isPart_34 : decode prog_9_method_18_code 34 = .ok (.if_icmp .ne 7, 3) := by decide +kernel
theorem d_M_isPart_37 : decode prog_9_method_18_code 37 = .ok (.iconst 1, 1) := by decide +kernel
theorem d_M_isPart_38 : decode prog_9_method_18_code 38 = .ok (.goto 4, 3) := by decide +kernel
theorem d_M_isPart_41 : decode prog_9_method_18_code 41 = .ok (.iconst 0, 1) := by decide +kernel
theorem d_M_isPart_42 : decode prog_9_method_18_code 42 = .ok (.ireturn, 1) := by decide +kernel
theorem d_M_partsOf_0 : decode prog_9_method_19_code 0 = .ok (.aload_n 0, 1) := by decide +kernel
theorem d_M_partsOf_1 : decode prog_9_method_19_code 1 = .ok (.iload_n 1, 1) := by decide +kernel
theorem d_M_partsOf_2 : decode prog_9_method_19_code 2 = .ok (.iload_n 2, 1) := by decide +kernel
theorem d_M_partsOf_3 : decode prog_9_method_19_code 3 = .ok (.invokevirtual 98, 3) := by decide +kernel
theorem d_M_partsOf_6 : decode prog_9_method_19_code 6 = .ok (.istore_n 3, 1) := by decide +kernel
theorem d_M_partsOf_7 : decode prog_9_method_19_code 7 = .ok (.aload_n 0, 1) := by decide +kernel
theorem d_M_partsOf_8 : decode prog_9_method_19_code 8 = .ok (.iload_n 3, 1) := by decide +kernel
theorem d_M_partsOf_9 : decode prog_9_method_19_code 9 = .ok (.invokevirtual 101, 3) := by decide +kernel
theorem d_M_partsOf_12 : decode prog_9_method_19_code 12 = .ok (.ifCond .ne 5, 3) := by decide +kernel
theorem d_M_partsOf_15 : decode prog_9_method_19_code 15 = .ok (.iconst 0, 1) := by decide +kernel
theorem d_M_partsOf_16 : decode prog_9_method_19_code 16 = .ok (.ireturn, 1) := by decide +kernel
theorem d_M_partsOf_17 : decode prog_9_method_19_code 17 = .ok (.iconst 0, 1) := by decide +kernel
theorem d_M_partsOf_18 : decode prog_9_method_19_code 18 = .ok (.istore 4, 2) := by decide +kernel
theorem d_M_partsOf_20 : decode prog_9_method_19_code 20 = .ok (.iconst 0, 1) := by decide +kernel
theorem d_M_partsOf_21 : decode prog_9_method_19_code 21 = .ok (.istore 5, 2) := by decide +kernel
theorem d_M_partsOf_23 : decode prog_9_method_19_code 23 = .ok (.iload 5, 2) := by decide +kernel
theorem d_M_partsOf_25 : decode prog_9_method_19_code 25 = .ok (.bipush 6, 2) := by decide +kernel
theorem d_M_partsOf_27 : decode prog_9_method_19_code 27 = .ok (.if_icmp .ge 25, 3) := by decide +kernel
theorem d_M_partsOf_30 : decode prog_9_method_19_code 30 = .ok (.iload 4, 2) := by decide +kernel
theorem d_M_partsOf_32 : decode prog_9_method_19_code 32 = .ok (.aload_n 0, 1) := by decide +kernel
theorem d_M_partsOf_33 : decode prog_9_method_19_code 33 = .ok (.getfield 7, 3) := by decide +kernel
theorem d_M_partsOf_36 : decode prog_9_method_19_code 36 = .ok (.iload_n 3, 1) := by decide +kernel
theorem d_M_partsOf_37 : decode prog_9_method_19_code 37 = .ok (.iload 5, 2) := by decide +kernel
theorem d_M_partsOf_39 : decode prog_9_method_19_code 39 = .ok (.iadd, 1) := by decide +kernel
theorem d_M_partsOf_40 : decode prog_9_method_19_code 40 = .ok (.iaload, 1) := by decide +kernel
theorem d_M_partsOf_41 : decode prog_9_method_19_code 41 = .ok (.invokestatic 104, 3) := by decide +kernel
theorem d_M_partsOf_44 : decode prog_9_method_19_code 44 = .ok (.istore 4, 2) := by decide +kernel
theorem d_M_partsOf_46 : decode prog_9_method_19_code 46 = .ok (.iinc 5 1, 3) := by decide +kernel
theorem d_M_partsOf_49 : decode prog_9_method_19_code 49 = .ok (.goto (-26), 3) := by decide +kernel
theorem d_M_partsOf_52 : decode prog_9_method_19_code 52 = .ok (.iload_n 2, 1) := by decide +kernel
theorem d_M_partsOf_53 : decode prog_9_method_19_code 53 = .ok (.ifCond .le 24, 3) := by decide +kernel
theorem d_M_partsOf_56 : decode prog_9_method_19_code 56 = .ok (.aload_n 0, 1) := by decide +kernel
theorem d_M_partsOf_57 : decode prog_9_method_19_code 57 = .ok (.aload_n 0, 1) := by decide +kernel
theorem d_M_partsOf_58 : decode prog_9_method_19_code 58 = .ok (.iload_n 1, 1) := by decide +kernel
theorem d_M_partsOf_59 : decode prog_9_method_19_code 59 = .ok (.iload_n 2, 1) := by decide +kernel
theorem d_M_partsOf_60 : decode prog_9_method_19_code 60 = .ok (.iconst 1, 1) := by decide +kernel
theorem d_M_partsOf_61 : decode prog_9_method_19_code 61 = .ok (.isub, 1) := by decide +kernel
theorem d_M_partsOf_62 : decode prog_9_method_19_code 62 = .ok (.invokevirtual 98, 3) := by decide +kernel
theorem d_M_partsOf_65 : decode prog_9_method_19_code 65 = .ok (.bipush 65, 2) := by decide +kernel
theorem d_M_partsOf_67 : decode prog_9_method_19_code 67 = .ok (.iload 4, 2) := by decide +kernel
theorem d_M_partsOf_69 : decode prog_9_method_19_code 69 = .ok (.invokevirtual 107, 3) := by decide +kernel
theorem d_M_partsOf_72 : decode prog_9_method_19_code 72 = .ok (.ifCond .eq 5, 3) := by decide +kernel
theorem d_M_partsOf_75 : decode prog_9_method_19_code 75 = .ok (.iconst 1, 1) := by decide +kernel
theorem d_M_partsOf_76 : decode prog_9_method_19_code 76 = .ok (.ireturn, 1) := by decide +kernel
theorem d_M_partsOf_77 : decode prog_9_method_19_code 77 = .ok (.iload_n 2, 1) := by decide +kernel
theorem d_M_partsOf_78 : decode prog_9_method_19_code 78 = .ok (.iconst 1, 1) := by decide +kernel
theorem d_M_partsOf_79 : decode prog_9_method_19_code 79 = .ok (.if_icmp .le 44, 3) := by decide +kernel
theorem d_M_partsOf_82 : decode prog_9_method_19_code 82 = .ok (.aload_n 0, 1) := by decide +kernel
theorem d_M_partsOf_83 : decode prog_9_method_19_code 83 = .ok (.aload_n 0, 1) := by decide +kernel
theorem d_M_partsOf_84 : decode prog_9_method_19_code 84 = .ok (.iload_n 1, 1) := by decide +kernel
theorem d_M_partsOf_85 : decode prog_9_method_19_code 85 = .ok (.iload_n 2, 1) := by decide +kernel
theorem d_M_partsOf_86 : decode prog_9_method_19_code 86 = .ok (.iconst 1, 1) := by decide +kernel
theorem d_M_partsOf_87 : decode prog_9_method_19_code 87 = .ok (.isub, 1) := by decide +kernel
theorem d_M_partsOf_88 : decode prog_9_method_19_code 88 = .ok (.invokevirtual 98, 3) := by decide +kernel
theorem d_M_partsOf_91 : decode prog_9_method_19_code 91 = .ok (.iconst 1, 1) := by decide +kernel
theorem d_M_partsOf_92 : decode prog_9_method_19_code 92 = .ok (.iload 4, 2) := by decide +kernel
theorem d_M_partsOf_94 : decode prog_9_method_19_code 94 = .ok (.invokevirtual 107, 3) := by decide +kernel
theorem d_M_partsOf_97 : decode prog_9_method_19_code 97 = .ok (.ifCond .eq 26, 3) := by decide +kernel
theorem d_M_partsOf_100 : decode prog_9_method_19_code 100 = .ok (.aload_n 0, 1) := by decide +kernel
theorem d_M_partsOf_101 : decode prog_9_method_19_code 101 = .ok (.aload_n 0, 1) := by decide +kernel
theorem d_M_partsOf_102 : decode prog_9_method_19_code 102 = .ok (.iload_n 1, 1) := by decide +kernel
theorem d_M_partsOf_103 : decode prog_9_method_19_code 103 = .ok (.iload_n 2, 1) := by decide +kernel
theorem d_M_partsOf_104 : decode prog_9_method_19_code 104 = .ok (.iconst 2, 1) := by decide +kernel
theorem d_M_partsOf_105 : decode prog_9_method_19_code 105 = .ok (.isub, 1) := by decide +kernel
theorem d_M_partsOf_106 : decode prog_9_method_19_code 106 = .ok (.invokevirtual 98, 3) := by decide +kernel
theorem d_M_partsOf_109 : decode prog_9_method_19_code 109 = .ok (.bipush 66, 2) := by decide +kernel
theorem d_M_partsOf_111 : decode prog_9_method_19_code 111 = .ok (.iload 4, 2) := by decide +kernel
theorem d_M_partsOf_113 : decode prog_9_method_19_code 113 = .ok (.invokevirtual 107, 3) := by decide +kernel
theorem d_M_partsOf_116 : decode prog_9_method_19_code 116 = .ok (.ifCond .eq 7, 3) := by decide +kernel
theorem d_M_partsOf_119 : decode prog_9_method_19_code 119 = .ok (.iconst 2, 1) := by decide +kernel
theorem d_M_partsOf_120 : decode prog_9_method_19_code 120 = .ok (.goto 4, 3) := by decide +kernel
theorem d_M_partsOf_123 : decode prog_9_method_19_code 123 = .ok (.iconst 0, 1) := by decide +kernel
theorem d_M_partsOf_124 : decode prog_9_method_19_code 124 = .ok (.ireturn, 1) := by decide +kernel
theorem d_M_capital_0 : decode prog_9_method_23_code 0 = .ok (.iload_n 0, 1) := by decide +kernel
theorem d_M_capital_1 : decode prog_9_method_23_code 1 = .ok (.bipush 97, 2) := by decide +kernel
theorem d_M_capital_3 : decode prog_9_method_23_code 3 = .ok (.bipush 122, 2) := by decide +kernel
theorem d_M_capital_5 : decode prog_9_method_23_code 5 = .ok (.invokestatic 86, 3) := by decide +kernel
theorem d_M_capital_8 : decode prog_9_method_23_code 8 = .ok (.ifCond .eq 10, 3) := by decide +kernel
theorem d_M_capital_11 : decode prog_9_method_23_code 11 = .ok (.iload_n 0, 1) := by decide +kernel
theorem d_M_capital_12 : decode prog_9_method_23_code 12 = .ok (.bipush 32, 2) := by decide +kernel
theorem d_M_capital_14 : decode prog_9_method_23_code 14 = .ok (.isub, 1) := by decide +kernel
theorem d_M_capital_15 : decode prog_9_method_23_code 15 = .ok (.goto 4, 3) := by decide +kernel
theorem d_M_capital_18 : decode prog_9_method_23_code 18 = .ok (.iload_n 0, 1) := by decide +kernel
theorem d_M_capital_19 : decode prog_9_method_23_code 19 = .ok (.ireturn, 1) := by decide +kernel
theorem d_M_shortLetter_0 : decode prog_9_method_22_code 0 = .ok (.iconst 0, 1) := by decide +kernel
theorem d_M_shortLetter_1 : decode prog_9_method_22_code 1 = .ok (.istore_n 3, 1) := by decide +kernel
theorem d_M_shortLetter_2 : decode prog_9_method_22_code 2 = .ok (.iload_n 3, 1) := by decide +kernel
theorem d_M_shortLetter_3 : decode prog_9_method_22_code 3 = .ok (.iload_n 2, 1) := by decide +kernel
theorem d_M_shortLetter_4 : decode prog_9_method_22_code 4 = .ok (.if_icmp .gt 41, 3) := by decide +kernel
theorem d_M_shortLetter_7 : decode prog_9_method_22_code 7 = .ok (.iload_n 3, 1) := by decide +kernel
theorem d_M_shortLetter_8 : decode prog_9_method_22_code 8 = .ok (.bipush 6, 2) := by decide +kernel
theorem d_M_shortLetter_10 : decode prog_9_method_22_code 10 = .ok (.if_icmp .ge 35, 3) := by decide +kernel
theorem d_M_shortLetter_13 : decode prog_9_method_22_code 13 = .ok (.aload_n 0, 1) := by decide +kernel
theorem d_M_shortLetter_14 : decode prog_9_method_22_code 14 = .ok (.getfield 7, 3) := by decide +kernel
theorem d_M_shortLetter_17 : decode prog_9_method_22_code 17 = .ok (.iload_n 1, 1) := by decide +kernel
theorem d_M_shortLetter_18 : decode prog_9_method_22_code 18 = .ok (.iload_n 3, 1) := by decide +kernel
theorem d_M_shortLetter_19 : decode prog_9_method_22_code 19 = .ok (.iadd, 1) := by decide +kernel
theorem d_M_shortLetter_20 : decode prog_9_method_22_code 20 = .ok (.iaload, 1) := by decide +kernel
theorem d_M_shortLetter_21 : decode prog_9_method_22_code 21 = .ok (.bipush 32, 2) := by decide +kernel
theorem d_M_shortLetter_23 : decode prog_9_method_22_code 23 = .ok (.if_icmp .eq 14, 3) := by decide +kernel
theorem d_M_shortLetter_26 : decode prog_9_method_22_code 26 = .ok (.aload_n 0, 1) := by decide +kernel
theorem d_M_shortLetter_27 : decode prog_9_method_22_code 27 = .ok (.getfield 7, 3) := by decide +kernel
theorem d_M_shortLetter_30 : decode prog_9_method_22_code 30 = .ok (.iload_n 1, 1) := by decide +kernel
theorem d_M_shortLetter_31 : decode prog_9_method_22_code 31 = .ok (.iload_n 3, 1) := by decide +kernel
theorem d_M_shortLetter_32 : decode prog_9_method_22_code 32 = .ok (.iadd, 1) := by decide +kernel
theorem d_M_shortLetter_33 : decode prog_9_method_22_code 33 = .ok (.iaload, 1) := by decide +kernel
theorem d_M_shortLetter_34 : decode prog_9_method_22_code 34 = .ok (.ifCond .ne 5, 3) := by decide +kernel
theorem d_M_shortLetter_37 : decode prog_9_method_22_code 37 = .ok (.iconst 0, 1) := by decide +kernel
theorem d_M_shortLetter_38 : decode prog_9_method_22_code 38 = .ok (.ireturn, 1) := by decide +kernel
theorem d_M_shortLetter_39 : decode prog_9_method_22_code 39 = .ok (.iinc 3 1, 3) := by decide +kernel
theorem d_M_shortLetter_42 : decode prog_9_method_22_code 42 = .ok (.goto (-40), 3) := by decide +kernel
theorem d_M_shortLetter_45 : decode prog_9_method_22_code 45 = .ok (.iload_n 2, 1) := by decide +kernel
theorem d_M_shortLetter_46 : decode prog_9_method_22_code 46 = .ok (.bipush 6, 2) := by decide +kernel
theorem d_M_shortLetter_48 : decode prog_9_method_22_code 48 = .ok (.if_icmp .ge 14, 3) := by decide +kernel
theorem d_M_shortLetter_51 : decode prog_9_method_22_code 51 = .ok (.aload_n 0, 1) := by decide +kernel
theorem d_M_shortLetter_52 : decode prog_9_method_22_code 52 = .ok (.getfield 7, 3) := by decide +kernel
theorem d_M_shortLetter_55 : decode prog_9_method_22_code 55 = .ok (.iload_n 1, 1) := by decide +kernel
theorem d_M_shortLetter_56 : decode prog_9_method_22_code 56 = .ok (.iload_n 2, 1) := by decide +kernel
theorem d_M_shortLetter_57 : decode prog_9_method_22_code 57 = .ok (.iadd, 1) := by decide +kernel
theorem d_M_shortLetter_58 : decode prog_9_method_22_code 58 = .ok (.iaload, 1) := by decide +kernel
theorem d_M_shortLetter_59 : decode prog_9_method_22_code 59 = .ok (.goto 4, 3) := by decide +kernel
theorem d_M_shortLetter_62 : decode prog_9_method_22_code 62 = .ok (.iconst 0, 1) := by decide +kernel
theorem d_M_shortLetter_63 : decode prog_9_method_22_code 63 = .ok (.ireturn, 1) := by decide +kernel
theorem d_M_spot_0 : decode prog_9_method_20_code 0 = .ok (.iload_n 0, 1) := by decide +kernel
theorem d_M_spot_1 : decode prog_9_method_20_code 1 = .ok (.iconst 5, 1) := by decide +kernel
theorem d_M_spot_2 : decode prog_9_method_20_code 2 = .ok (.if_icmp .ge 9, 3) := by decide +kernel
theorem d_M_spot_5 : decode prog_9_method_20_code 5 = .ok (.iconst 1, 1) := by decide +kernel
theorem d_M_spot_6 : decode prog_9_method_20_code 6 = .ok (.iload_n 0, 1) := by decide +kernel
theorem d_M_spot_7 : decode prog_9_method_20_code 7 = .ok (.iadd, 1) := by decide +kernel
theorem d_M_spot_8 : decode prog_9_method_20_code 8 = .ok (.goto 6, 3) := by decide +kernel
theorem d_M_spot_11 : decode prog_9_method_20_code 11 = .ok (.iconst 3, 1) := by decide +kernel
theorem d_M_spot_12 : decode prog_9_method_20_code 12 = .ok (.iload_n 0, 1) := by decide +kernel
theorem d_M_spot_13 : decode prog_9_method_20_code 13 = .ok (.iadd, 1) := by decide +kernel
theorem d_M_spot_14 : decode prog_9_method_20_code 14 = .ok (.ireturn, 1) := by decide +kernel
theorem d_M_letter_0 : decode prog_9_method_21_code 0 = .ok (.bipush 13, 2) := by decide +kernel
theorem d_M_letter_2 : decode prog_9_method_21_code 2 = .ok (.aload_n 0, 1) := by decide +kernel
theorem d_M_letter_3 : decode prog_9_method_21_code 3 = .ok (.iload_n 1, 1) := by decide +kernel
theorem d_M_letter_4 : decode prog_9_method_21_code 4 = .ok (.iload_n 2, 1) := by decide +kernel
theorem d_M_letter_5 : decode prog_9_method_21_code 5 = .ok (.invokevirtual 110, 3) := by decide +kernel
theorem d_M_letter_8 : decode prog_9_method_21_code 8 = .ok (.imul, 1) := by decide +kernel
theorem d_M_letter_9 : decode prog_9_method_21_code 9 = .ok (.istore 4, 2) := by decide +kernel
theorem d_M_letter_11 : decode prog_9_method_21_code 11 = .ok (.iconst 0, 1) := by decide +kernel
theorem d_M_letter_12 : decode prog_9_method_21_code 12 = .ok (.istore 5, 2) := by decide +kernel
theorem d_M_letter_14 : decode prog_9_method_21_code 14 = .ok (.iconst 0, 1) := by decide +kernel
theorem d_M_letter_15 : decode prog_9_method_21_code 15 = .ok (.istore 6, 2) := by decide +kernel
theorem d_M_letter_17 : decode prog_9_method_21_code 17 = .ok (.iload 6, 2) := by decide +kernel
theorem d_M_letter_19 : decode prog_9_method_21_code 19 = .ok (.iload_n 3, 1) := by decide +kernel
theorem d_M_letter_20 : decode prog_9_method_21_code 20 = .ok (.if_icmp .gt 60, 3) := by decide +kernel
theorem d_M_letter_23 : decode prog_9_method_21_code 23 = .ok (.iload 6, 2) := by decide +kernel
theorem d_M_letter_25 : decode prog_9_method_21_code 25 = .ok (.iload 4, 2) := by decide +kernel
theorem d_M_letter_27 : decode prog_9_method_21_code 27 = .ok (.if_icmp .ge 44, 3) := by decide +kernel
theorem d_M_letter_30 : decode prog_9_method_21_code 30 = .ok (.iload 6, 2) := by decide +kernel
theorem d_M_letter_32 : decode prog_9_method_21_code 32 = .ok (.ifCond .eq 8, 3) := by decide +kernel
theorem d_M_letter_35 : decode prog_9_method_21_code 35 = .ok (.iload 5, 2) := by decide +kernel
theorem d_M_letter_37 : decode prog_9_method_21_code 37 = .ok (.ifCond .eq 34, 3) := by decide +kernel
theorem d_M_letter_40 : decode prog_9_method_21_code 40 = .ok (.aload_n 0, 1) := by decide +kernel
theorem d_M_letter_41 : decode prog_9_method_21_code 41 = .ok (.getfield 7, 3) := by decide +kernel
theorem d_M_letter_44 : decode prog_9_method_21_code 44 = .ok (.aload_n 0, 1) := by decide +kernel
theorem d_M_letter_45 : decode prog_9_method_21_code 45 = .ok (.iload_n 1, 1) := by decide +kernel
theorem d_M_letter_46 : decode prog_9_method_21_code 46 = .ok (.iload_n 2, 1) := by decide +kernel
theorem d_M_letter_47 : decode prog_9_method_21_code 47 = .ok (.iconst 1, 1) := by decide +kernel
theorem d_M_letter_48 : decode prog_9_method_21_code 48 = .ok (.isub, 1) := by decide +kernel
theorem d_M_letter_49 : decode prog_9_method_21_code 49 = .ok (.iload 6, 2) := by decide +kernel
theorem d_M_letter_51 : decode prog_9_method_21_code 51 = .ok (.bipush 13, 2) := by decide +kernel
theorem d_M_letter_53 : decode prog_9_method_21_code 53 = .ok (.idiv, 1) := by decide +kernel
theorem d_M_letter_54 : decode prog_9_method_21_code 54 = .ok (.isub, 1) := by decide +kernel
theorem d_M_letter_55 : decode prog_9_method_21_code 55 = .ok (.invokevirtual 98, 3) := by decide +kernel
theorem d_M_letter_58 : decode prog_9_method_21_code 58 = .ok (.iload 6, 2) := by decide +kernel
theorem d_M_letter_60 : decode prog_9_method_21_code 60 = .ok (.bipush 13, 2) := by decide +kernel
theorem d_M_letter_62 : decode prog_9_method_21_code 62 = .ok (.irem, 1) := by decide +kernel
theorem d_M_letter_63 : decode prog_9_method_21_code 63 = .ok (.invokestatic 113, 3) := by decide +kernel
theorem d_M_letter_66 : decode prog_9_method_21_code 66 = .ok (.iadd, 1) := by decide +kernel
theorem d_M_letter_67 : decode prog_9_method_21_code 67 = .ok (.iaload, 1) := by decide +kernel
theorem d_M_letter_68 : decode prog_9_method_21_code 68 = .ok (.goto 4, 3) := by decide +kernel
theorem d_M_letter_71 : decode prog_9_method_21_code 71 = .ok (.iconst 0, 1) := by decide +kernel
theorem d_M_letter_72 : decode prog_9_method_21_code 72 = .ok (.istore 5, 2) := by decide +kernel
theorem d_M_letter_74 : decode prog_9_method_21_code 74 = .ok (.iinc 6 1, 3) := by decide +kernel
theorem d_M_letter_77 : decode prog_9_method_21_code 77 = .ok (.goto (-60), 3) := by decide +kernel
theorem d_M_letter_80 : decode prog_9_method_21_code 80 = .ok (.iload 5, 2) := by decide +kernel
theorem d_M_letter_82 : decode prog_9_method_21_code 82 = .ok (.ireturn, 1) := by decide +kernel
theorem d_M_isCalled_0 : decode prog_9_method_25_code 0 = .ok (.aload_n 0, 1) := by decide +kernel
theorem d_M_isCalled_1 : decode prog_9_method_25_code 1 = .ok (.aload_n 0, 1) := by decide +kernel
theorem d_M_isCalled_2 : decode prog_9_method_25_code 2 = .ok (.getfield 24, 3) := by decide +kernel
theorem d_M_isCalled_5 : decode prog_9_method_25_code 5 = .ok (.iload_n 1, 1) := by decide +kernel
theorem d_M_isCalled_6 : decode prog_9_method_25_code 6 = .ok (.invokevirtual 98, 3) := by decide +kernel
theorem d_M_isCalled_9 : decode prog_9_method_25_code 9 = .ok (.istore_n 2, 1) := by decide +kernel
theorem d_M_isCalled_10 : decode prog_9_method_25_code 10 = .ok (.aload_n 0, 1) := by decide +kernel
theorem d_M_isCalled_11 : decode prog_9_method_25_code 11 = .ok (.iload_n 2, 1) := by decide +kernel
theorem d_M_isCalled_12 : decode prog_9_method_25_code 12 = .ok (.invokevirtual 101, 3) := by decide +kernel
theorem d_M_isCalled_15 : decode prog_9_method_25_code 15 = .ok (.ifCond .eq 10, 3) := by decide +kernel
theorem d_M_isCalled_18 : decode prog_9_method_25_code 18 = .ok (.aload_n 0, 1) := by decide +kernel
theorem d_M_isCalled_19 : decode prog_9_method_25_code 19 = .ok (.getfield 67, 3) := by decide +kernel
theorem d_M_isCalled_22 : decode prog_9_method_25_code 22 = .ok (.ifCond .ne 5, 3) := by decide +kernel
theorem d_M_isCalled_25 : decode prog_9_method_25_code 25 = .ok (.iconst 0, 1) := by decide +kernel
theorem d_M_isCalled_26 : decode prog_9_method_25_code 26 = .ok (.ireturn, 1) := by decide +kernel
theorem d_M_isCalled_27 : decode prog_9_method_25_code 27 = .ok (.iconst 1, 1) := by decide +kernel
theorem d_M_isCalled_28 : decode prog_9_method_25_code 28 = .ok (.istore_n 3, 1) := by decide +kernel
theorem d_M_isCalled_29 : decode prog_9_method_25_code 29 = .ok (.aload_n 0, 1) := by decide +kernel
theorem d_M_isCalled_30 : decode prog_9_method_25_code 30 = .ok (.aload_n 0, 1) := by decide +kernel
theorem d_M_isCalled_31 : decode prog_9_method_25_code 31 = .ok (.getfield 24, 3) := by decide +kernel
theorem d_M_isCalled_34 : decode prog_9_method_25_code 34 = .ok (.iload_n 1, 1) := by decide +kernel
theorem d_M_isCalled_35 : decode prog_9_method_25_code 35 = .ok (.invokevirtual 110, 3) := by decide +kernel
theorem d_M_isCalled_38 : decode prog_9_method_25_code 38 = .ok (.ifCond .le 7, 3) := by decide +kernel
theorem d_M_isCalled_41 : decode prog_9_method_25_code 41 = .ok (.iconst 1, 1) := by decide +kernel
theorem d_M_isCalled_42 : decode prog_9_method_25_code 42 = .ok (.goto 4, 3) := by decide +kernel
theorem d_M_isCalled_45 : decode prog_9_method_25_code 45 = .ok (.iconst 0, 1) := by decide +kernel
theorem d_M_isCalled_46 : decode prog_9_method_25_code 46 = .ok (.istore 4, 2) := by decide +kernel
theorem d_M_isCalled_48 : decode prog_9_method_25_code 48 = .ok (.iconst 0, 1) := by decide +kernel
theorem d_M_isCalled_49 : decode prog_9_method_25_code 49 = .ok (.istore 5, 2) := by decide +kernel
theorem d_M_isCalled_51 : decode prog_9_method_25_code 51 = .ok (.iload 5, 2) := by decide +kernel
theorem d_M_isCalled_53 : decode prog_9_method_25_code 53 = .ok (.aload_n 0, 1) := by decide +kernel
theorem d_M_isCalled_54 : decode prog_9_method_25_code 54 = .ok (.getfield 67, 3) := by decide +kernel
theorem d_M_isCalled_57 : decode prog_9_method_25_code 57 = .ok (.if_icmp .gt 101, 3) := by decide +kernel
theorem d_M_isCalled_60 : decode prog_9_method_25_code 60 = .ok (.iload 5, 2) := by decide +kernel
theorem d_M_isCalled_62 : decode prog_9_method_25_code 62 = .ok (.aload_n 0, 1) := by decide +kernel
theorem d_M_isCalled_63 : decode prog_9_method_25_code 63 = .ok (.getfield 67, 3) := by decide +kernel
theorem d_M_isCalled_66 : decode prog_9_method_25_code 66 = .ok (.if_icmp .ge 16, 3) := by decide +kernel
theorem d_M_isCalled_69 : decode prog_9_method_25_code 69 = .ok (.aload_n 0, 1) := by decide +kernel
theorem d_M_isCalled_70 : decode prog_9_method_25_code 70 = .ok (.getfield 21, 3) := by decide +kernel
theorem d_M_isCalled_73 : decode prog_9_method_25_code 73 = .ok (.iload 5, 2) := by decide +kernel
theorem d_M_isCalled_75 : decode prog_9_method_25_code 75 = .ok (.iaload, 1) := by decide +kernel
theorem d_M_isCalled_76 : decode prog_9_method_25_code 76 = .ok (.invokestatic 116, 3) := by decide +kernel
theorem d_M_isCalled_79 : decode prog_9_method_25_code 79 = .ok (.goto 4, 3) := by decide +kernel
theorem d_M_isCalled_82 : decode prog_9_method_25_code 82 = .ok (.iconst 0, 1) := by decide +kernel
theorem d_M_isCalled_83 : decode prog_9_method_25_code 83 = .ok (.istore 6, 2) := by decide +kernel
theorem d_M_isCalled_85 : decode prog_9_method_25_code 85 = .ok (.iload_n 3, 1) := by decide +kernel
theorem d_M_isCalled_86 : decode prog_9_method_25_code 86 = .ok (.ifCond .eq 22, 3) := by decide +kernel
theorem d_M_isCalled_89 : decode prog_9_method_25_code 89 = .ok (.aload_n 0, 1) := by decide +kernel
theorem d_M_isCalled_90 : decode prog_9_method_25_code 90 = .ok (.iload_n 2, 1) := by decide +kernel
theorem d_M_isCalled_91 : decode prog_9_method_25_code 91 = .ok (.iload 5, 2) := by decide +kernel
theorem d_M_isCalled_93 : decode prog_9_method_25_code 93 = .ok (.invokevirtual 119, 3) := by decide +kernel
theorem d_M_isCalled_96 : decode prog_9_method_25_code 96 = .ok (.invokestatic 116, 3) := by decide +kernel
theorem d_M_isCalled_99 : decode prog_9_method_25_code 99 = .ok (.iload 6, 2) := by decide +kernel
theorem d_M_isCalled_101 : decode prog_9_method_25_code 101 = .ok (.if_icmp .ne 7, 3) := by decide +kernel
theorem d_M_isCalled_104 : decode prog_9_method_25_code 104 = .ok (.iconst 1, 1) := by decide +kernel
theorem d_M_isCalled_105 : decode prog_9_method_25_code 105 = .ok (.goto 4, 3) := by decide +kernel
theorem d_M_isCalled_108 : decode prog_9_method_25_code 108 = .ok (.iconst 0, 1) := by decide +kernel
theorem d_M_isCalled_109 : decode prog_9_method_25_code 109 = .ok (.istore_n 3, 1) := by decide +kernel
theorem d_M_isCalled_110 : decode prog_9_method_25_code 110 = .ok (.iload 4, 2) := by decide +kernel
theorem d_M_isCalled_112 : decode prog_9_method_25_code 112 = .ok (.ifCond .eq 37, 3) := by decide +kernel
theorem d_M_isCalled_115 : decode prog_9_method_25_code 115 = .ok (.iload 5, 2) := by decide +kernel
theorem d_M_isCalled_117 : decode prog_9_method_25_code 117 = .ok (.bipush 26, 2) := by decide +kernel
theorem d_M_isCalled_119 : decode prog_9_method_25_code 119 = .ok (.if_icmp .ge 20, 3) := by decide +kernel
theorem d_M_isCalled_122 : decode prog_9_method_25_code 122 = .ok (.aload_n 0, 1) := by decide +kernel
theorem d_M_isCalled_123 : decode prog_9_method_25_code 123 = .ok (.aload_n 0, 1) := by decide +kernel
theorem d_M_isCalled_124 : decode prog_9_method_25_code 124 = .ok (.getfield 24, 3) := by decide +kernel
theorem d_M_isCalled_127 : decode prog_9_method_25_code 127 = .ok (.iload_n 1, 1) := by decide +kernel
theorem d_M_isCalled_128 : decode prog_9_method_25_code 128 = .ok (.iload 5, 2) := by decide +kernel
theorem d_M_isCalled_130 : decode prog_9_method_25_code 130 = .ok (.invokevirtual 122, 3) := by decide +kernel
theorem d_M_isCalled_133 : decode prog_9_method_25_code 133 = .ok (.invokestatic 116, 3) := by decide +kernel
theorem d_M_isCalled_136 : decode prog_9_method_25_code 136 = .ok (.goto 4, 3) := by decide +kernel
theorem d_M_isCalled_139 : decode prog_9_method_25_code 139 = .ok (.iconst 0, 1) := by decide +kernel
theorem d_M_isCalled_140 : decode prog_9_method_25_code 140 = .ok (.iload 6, 2) := by decide +kernel
theorem d_M_isCalled_142 : decode prog_9_method_25_code 142 = .ok (.if_icmp .ne 7, 3) := by decide +kernel
theorem d_M_isCalled_145 : decode prog_9_method_25_code 145 = .ok (.iconst 1, 1) := by decide +kernel
theorem d_M_isCalled_146 : decode prog_9_method_25_code 146 = .ok (.goto 4, 3) := by decide +kernel
theorem d_M_isCalled_149 : decode prog_9_method_25_code 149 = .ok (.iconst 0, 1) := by decide +kernel
theorem d_M_isCalled_150 : decode prog_9_method_25_code 150 = .ok (.istore 4, 2) := by decide +kernel
theorem d_M_isCalled_152 : decode prog_9_method_25_code 152 = .ok (.iinc 5 1, 3) := by decide +kernel
theorem d_M_isCalled_155 : decode prog_9_method_25_code 155 = .ok (.goto (-104), 3) := by decide +kernel
theorem d_M_isCalled_158 : decode prog_9_method_25_code 158 = .ok (.iload_n 3, 1) := by decide +kernel
theorem d_M_isCalled_159 : decode prog_9_method_25_code 159 = .ok (.ifCond .ne 8, 3) := by decide +kernel
theorem d_M_isCalled_162 : decode prog_9_method_25_code 162 = .ok (.iload 4, 2) := by decide +kernel
theorem d_M_isCalled_164 : decode prog_9_method_25_code 164 = .ok (.ifCond .eq 7, 3) := by decide +kernel
theorem d_M_isCalled_167 : decode prog_9_method_25_code 167 = .ok (.iconst 1, 1) := by decide +kernel
theorem d_M_isCalled_168 : decode prog_9_method_25_code 168 = .ok (.goto 4, 3) := by decide +kernel
theorem d_M_isCalled_171 : decode prog_9_method_25_code 171 = .ok (.iconst 0, 1) := by decide +kernel
theorem d_M_isCalled_172 : decode prog_9_method_25_code 172 = .ok (.ireturn, 1) := by decide +kernel
theorem d_M_find_0 : decode prog_9_method_26_code 0 = .ok (.iconst 2, 1) := by decide +kernel
theorem d_M_find_1 : decode prog_9_method_26_code 1 = .ok (.aload_n 0, 1) := by decide +kernel
theorem d_M_find_2 : decode prog_9_method_26_code 2 = .ok (.aload_n 0, 1) := by decide +kernel
theorem d_M_find_3 : decode prog_9_method_26_code 3 = .ok (.getfield 24, 3) := by decide +kernel
theorem d_M_find_6 : decode prog_9_method_26_code 6 = .ok (.invokevirtual 126, 3) := by decide +kernel
theorem d_M_find_9 : decode prog_9_method_26_code 9 = .ok (.imul, 1) := by decide +kernel
theorem d_M_find_10 : decode prog_9_method_26_code 10 = .ok (.istore_n 1, 1) := by decide +kernel
theorem d_M_find_11 : decode prog_9_method_26_code 11 = .ok (.iconst 0, 1) := by decide +kernel
theorem d_M_find_12 : decode prog_9_method_26_code 12 = .ok (.istore_n 2, 1) := by decide +kernel
theorem d_M_find_13 : decode prog_9_method_26_code 13 = .ok (.iload_n 2, 1) := by decide +kernel
theorem d_M_find_14 : decode prog_9_method_26_code 14 = .ok (.iload_n 1, 1) := by decide +kernel
theorem d_M_find_15 : decode prog_9_method_26_code 15 = .ok (.if_icmp .ge 19, 3) := by decide +kernel
theorem d_M_find_18 : decode prog_9_method_26_code 18 = .ok (.aload_n 0, 1) := by decide +kernel
theorem d_M_find_19 : decode prog_9_method_26_code 19 = .ok (.iload_n 2, 1) := by decide +kernel
theorem d_M_find_20 : decode prog_9_method_26_code 20 = .ok (.invokevirtual 129, 3) := by decide +kernel
theorem d_M_find_23 : decode prog_9_method_26_code 23 = .ok (.ifCond .eq 5, 3) := by decide +kernel
theorem d_M_find_26 : decode prog_9_method_26_code 26 = .ok (.iload_n 2, 1) := by decide +kernel
theorem d_M_find_27 : decode prog_9_method_26_code 27 = .ok (.ireturn, 1) := by decide +kernel
theorem d_M_find_28 : decode prog_9_method_26_code 28 = .ok (.iinc 2 1, 3) := by decide +kernel
theorem d_M_find_31 : decode prog_9_method_26_code 31 = .ok (.goto (-18), 3) := by decide +kernel
theorem d_M_find_34 : decode prog_9_method_26_code 34 = .ok (.iconst (-1), 1) := by decide +kernel
theorem d_M_find_35 : decode prog_9_method_26_code 35 = .ok (.ireturn, 1) := by decide +kernel
theorem d_M_isPlain_0 : decode prog_9_method_24_code 0 = .ok (.iload_n 0, 1) := by decide +kernel
theorem d_M_isPlain_1 : decode prog_9_method_24_code 1 = .ok (.bipush 65, 2) := by decide +kernel
theorem d_M_isPlain_3 : decode prog_9_method_24_code 3 = .ok (.bipush 90, 2) := by decide +kernel
theorem d_M_isPlain_5 : decode prog_9_method_24_code 5 = .ok (.invokestatic 86, 3) := by decide +kernel
theorem d_M_isPlain_8 : decode prog_9_method_24_code 8 = .ok (.ifCond .ne 14, 3) := by decide +kernel
theorem d_M_isPlain_11 : decode prog_9_method_24_code 11 = .ok (.iload_n 0, 1) := by decide +kernel
theorem d_M_isPlain_12 : decode prog_9_method_24_code 12 = .ok (.bipush 48, 2) := by decide +kernel
theorem d_M_isPlain_14 : decode prog_9_method_24_code 14 = .ok (.bipush 57, 2) := by decide +kernel
theorem d_M_isPlain_16 : decode prog_9_method_24_code 16 = .ok (.invokestatic 86, 3) := by decide +kernel
theorem d_M_isPlain_19 : decode prog_9_method_24_code 19 = .ok (.ifCond .eq 7, 3) := by decide +kernel
theorem d_M_isPlain_22 : decode prog_9_method_24_code 22 = .ok (.iconst 1, 1) := by decide +kernel
theorem d_M_isPlain_23 : decode prog_9_method_24_code 23 = .ok (.goto 4, 3) := by decide +kernel
theorem d_M_isPlain_26 : decode prog_9_method_24_code 26 = .ok (.iconst 0, 1) := by decide +kernel
theorem d_M_isPlain_27 : decode prog_9_method_24_code 27 = .ok (.ireturn, 1) := by decide +kernel
theorem d_M_isTaken_0 : decode prog_9_method_27_code 0 = .ok (.iconst 2, 1) := by decide +kernel
theorem d_M_isTaken_1 : decode prog_9_method_27_code 1 = .ok (.aload_n 0, 1) := by decide +kernel
theorem d_M_isTaken_2 : decode prog_9_method_27_code 2 = .ok (.aload_n 0, 1) := by decide +kernel
theorem d_M_isTaken_3 : decode prog_9_method_27_code 3 = .ok (.getfield 24, 3) := by decide +kernel
theorem d_M_isTaken_6 : decode prog_9_method_27_code 6 = .ok (.invokevirtual 126, 3) := by decide +kernel
theorem d_M_isTaken_9 : decode prog_9_method_27_code 9 = .ok (.imul, 1) := by decide +kernel
theorem d_M_isTaken_10 : decode prog_9_method_27_code 10 = .ok (.istore_n 1, 1) := by decide +kernel
theorem d_M_isTaken_11 : decode prog_9_method_27_code 11 = .ok (.iconst 0, 1) := by decide +kernel
theorem d_M_isTaken_12 : decode prog_9_method_27_code 12 = .ok (.istore_n 2, 1) := by decide +kernel
theorem d_M_isTaken_13 : decode prog_9_method_27_code 13 = .ok (.iconst 0, 1) := by decide +kernel
theorem d_M_isTaken_14 : decode prog_9_method_27_code 14 = .ok (.istore_n 3, 1) := by decide +kernel
theorem d_M_isTaken_15 : decode prog_9_method_27_code 15 = .ok (.iload_n 3, 1) := by decide +kernel
theorem d_M_isTaken_16 : decode prog_9_method_27_code 16 = .ok (.iload_n 1, 1) := by decide +kernel
theorem d_M_isTaken_17 : decode prog_9_method_27_code 17 = .ok (.if_icmp .ge 91, 3) := by decide +kernel
theorem d_M_isTaken_20 : decode prog_9_method_27_code 20 = .ok (.aload_n 0, 1) := by decide +kernel
theorem d_M_isTaken_21 : decode prog_9_method_27_code 21 = .ok (.aload_n 0, 1) := by decide +kernel
theorem d_M_isTaken_22 : decode prog_9_method_27_code 22 = .ok (.getfield 24, 3) := by decide +kernel
theorem d_M_isTaken_25 : decode prog_9_method_27_code 25 = .ok (.iload_n 3, 1) := by decide +kernel
theorem d_M_isTaken_26 : decode prog_9_method_27_code 26 = .ok (.invokevirtual 98, 3) := by decide +kernel
theorem d_M_isTaken_29 : decode prog_9_method_27_code 29 = .ok (.istore 4, 2) := by decide +kernel
theorem d_M_isTaken_31 : decode prog_9_method_27_code 31 = .ok (.aload_n 0, 1) := by decide +kernel
theorem d_M_isTaken_32 : decode prog_9_method_27_code 32 = .ok (.iload 4, 2) := by decide +kernel
theorem d_M_isTaken_34 : decode prog_9_method_27_code 34 = .ok (.invokevirtual 101, 3) := by decide +kernel
theorem d_M_isTaken_37 : decode prog_9_method_27_code 37 = .ok (.istore 5, 2) := by decide +kernel
theorem d_M_isTaken_39 : decode prog_9_method_27_code 39 = .ok (.iconst 0, 1) := by decide +kernel
theorem d_M_isTaken_40 : decode prog_9_method_27_code 40 = .ok (.istore 6, 2) := by decide +kernel
theorem d_M_isTaken_42 : decode prog_9_method_27_code 42 = .ok (.iload 6, 2) := by decide +kernel
theorem d_M_isTaken_44 : decode prog_9_method_27_code 44 = .ok (.bipush 6, 2) := by decide +kernel
theorem d_M_isTaken_46 : decode prog_9_method_27_code 46 = .ok (.if_icmp .ge 41, 3) := by decide +kernel
theorem d_M_isTaken_49 : decode prog_9_method_27_code 49 = .ok (.iload 5, 2) := by decide +kernel
theorem d_M_isTaken_51 : decode prog_9_method_27_code 51 = .ok (.ifCond .eq 27, 3) := by decide +kernel
theorem d_M_isTaken_54 : decode prog_9_method_27_code 54 = .ok (.aload_n 0, 1) := by decide +kernel
theorem d_M_isTaken_55 : decode prog_9_method_27_code 55 = .ok (.getfield 7, 3) := by decide +kernel
theorem d_M_isTaken_58 : decode prog_9_method_27_code 58 = .ok (.iload 4, 2) := by decide +kernel
theorem d_M_isTaken_60 : decode prog_9_method_27_code 60 = .ok (.iload 6, 2) := by decide +kernel
theorem d_M_isTaken_62 : decode prog_9_method_27_code 62 = .ok (.iadd, 1) := by decide +kernel
theorem d_M_isTaken_63 : decode prog_9_method_27_code 63 = .ok (.iaload, 1) := by decide +kernel
theorem d_M_isTaken_64 : decode prog_9_method_27_code 64 = .ok (.aload_n 0, 1) := by decide +kernel
theorem d_M_isTaken_65 : decode prog_9_method_27_code 65 = .ok (.getfield 36, 3) := by decide +kernel
theorem d_M_isTaken_68 : decode prog_9_method_27_code 68 = .ok (.iload 6, 2) := by decide +kernel
theorem d_M_isTaken_70 : decode prog_9_method_27_code 70 = .ok (.iaload, 1) := by decide +kernel
theorem d_M_isTaken_71 : decode prog_9_method_27_code 71 = .ok (.if_icmp .ne 7, 3) := by decide +kernel
theorem d_M_isTaken_74 : decode prog_9_method_27_code 74 = .ok (.iconst 1, 1) := by decide +kernel
theorem d_M_isTaken_75 : decode prog_9_method_27_code 75 = .ok (.goto 4, 3) := by decide +kernel
theorem d_M_isTaken_78 : decode prog_9_method_27_code 78 = .ok (.iconst 0, 1) := by decide +kernel
theorem d_M_isTaken_79 : decode prog_9_method_27_code 79 = .ok (.istore 5, 2) := by decide +kernel
theorem d_M_isTaken_81 : decode prog_9_method_27_code 81 = .ok (.iinc 6 1, 3) := by decide +kernel
theorem d_M_isTaken_84 : decode prog_9_method_27_code 84 = .ok (.goto (-42), 3) := by decide +kernel
theorem d_M_isTaken_87 : decode prog_9_method_27_code 87 = .ok (.iload_n 2, 1) := by decide +kernel
theorem d_M_isTaken_88 : decode prog_9_method_27_code 88 = .ok (.ifCond .ne 8, 3) := by decide +kernel
theorem d_M_isTaken_91 : decode prog_9_method_27_code 91 = .ok (.iload 5, 2) := by decide +kernel
theorem d_M_isTaken_93 : decode prog_9_method_27_code 93 = .ok (.ifCond .eq 7, 3) := by decide +kernel
theorem d_M_isTaken_96 : decode prog_9_method_27_code 96 = .ok (.iconst 1, 1) := by decide +kernel
theorem d_M_isTaken_97 : decode prog_9_method_27_code 97 = .ok (.goto 4, 3) := by decide +kernel
theorem d_M_isTaken_100 : decode prog_9_method_27_code 100 = .ok (.iconst 0, 1) := by decide +kernel
theorem d_M_isTaken_101 : decode prog_9_method_27_code 101 = .ok (.istore_n 2, 1) := by decide +kernel
theorem d_M_isTaken_102 : decode prog_9_method_27_code 102 = .ok (.iinc 3 1, 3) := by decide +kernel
theorem d_M_isTaken_105 : decode prog_9_method_27_code 105 = .ok (.goto (-90), 3) := by decide +kernel
theorem d_M_isTaken_108 : decode prog_9_method_27_code 108 = .ok (.iload_n 2, 1) := by decide +kernel
