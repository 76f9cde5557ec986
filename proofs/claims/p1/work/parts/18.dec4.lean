theorem d_V_repair_63 : decode prog_1_method_14_code 63 = .ok (.putfield 286, 3) := by decide +kernel
theorem d_V_repair_66 : decode prog_1_method_14_code 66 = .ok (.aload_n 0, 1) := by decide +kernel
theorem d_V_repair_67 : decode prog_1_method_14_code 67 = .ok (.getfield 51, 3) := by decide +kernel
theorem d_V_repair_70 : decode prog_1_method_14_code 70 = .ok (.getfield 289, 3) := by decide +kernel
theorem d_V_repair_73 : decode prog_1_method_14_code 73 = .ok (.ireturn, 1) := by decide +kernel
theorem d_V_isOnDisk_0 : decode prog_1_method_28_code 0 = .ok (.iload_n 0, 1) := by decide +kernel
theorem d_V_isOnDisk_1 : decode prog_1_method_28_code 1 = .ok (.ifCond .lt 23, 3) := by decide +kernel
theorem d_V_isOnDisk_4 : decode prog_1_method_28_code 4 = .ok (.iload_n 0, 1) := by decide +kernel
theorem d_V_isOnDisk_5 : decode prog_1_method_28_code 5 = .ok (.bipush 70, 2) := by decide +kernel
theorem d_V_isOnDisk_7 : decode prog_1_method_28_code 7 = .ok (.if_icmp .ge 17, 3) := by decide +kernel
theorem d_V_isOnDisk_10 : decode prog_1_method_28_code 10 = .ok (.iload_n 1, 1) := by decide +kernel
theorem d_V_isOnDisk_11 : decode prog_1_method_28_code 11 = .ok (.ifCond .lt 13, 3) := by decide +kernel
theorem d_V_isOnDisk_14 : decode prog_1_method_28_code 14 = .ok (.iload_n 1, 1) := by decide +kernel
theorem d_V_isOnDisk_15 : decode prog_1_method_28_code 15 = .ok (.bipush 32, 2) := by decide +kernel
theorem d_V_isOnDisk_17 : decode prog_1_method_28_code 17 = .ok (.if_icmp .ge 7, 3) := by decide +kernel
theorem d_V_isOnDisk_20 : decode prog_1_method_28_code 20 = .ok (.iconst 1, 1) := by decide +kernel
theorem d_V_isOnDisk_21 : decode prog_1_method_28_code 21 = .ok (.goto 4, 3) := by decide +kernel
theorem d_V_isOnDisk_24 : decode prog_1_method_28_code 24 = .ok (.iconst 0, 1) := by decide +kernel
theorem d_V_isOnDisk_25 : decode prog_1_method_28_code 25 = .ok (.ireturn, 1) := by decide +kernel
theorem d_V_octet_0 : decode prog_1_method_15_code 0 = .ok (.iload_n 1, 1) := by decide +kernel
theorem d_V_octet_1 : decode prog_1_method_15_code 1 = .ok (.iload_n 2, 1) := by decide +kernel
theorem d_V_octet_2 : decode prog_1_method_15_code 2 = .ok (.invokestatic 292, 3) := by decide +kernel
theorem d_V_octet_5 : decode prog_1_method_15_code 5 = .ok (.ifCond .eq 19, 3) := by decide +kernel
theorem d_V_octet_8 : decode prog_1_method_15_code 8 = .ok (.aload_n 0, 1) := by decide +kernel
theorem d_V_octet_9 : decode prog_1_method_15_code 9 = .ok (.getfield 21, 3) := by decide +kernel
theorem d_V_octet_12 : decode prog_1_method_15_code 12 = .ok (.iload_n 1, 1) := by decide +kernel
theorem d_V_octet_13 : decode prog_1_method_15_code 13 = .ok (.bipush 32, 2) := by decide +kernel
theorem d_V_octet_15 : decode prog_1_method_15_code 15 = .ok (.imul, 1) := by decide +kernel
theorem d_V_octet_16 : decode prog_1_method_15_code 16 = .ok (.iload_n 2, 1) := by decide +kernel
theorem d_V_octet_17 : decode prog_1_method_15_code 17 = .ok (.iadd, 1) := by decide +kernel
theorem d_V_octet_18 : decode prog_1_method_15_code 18 = .ok (.invokevirtual 205, 3) := by decide +kernel
theorem d_V_octet_21 : decode prog_1_method_15_code 21 = .ok (.goto 4, 3) := by decide +kernel
theorem d_V_octet_24 : decode prog_1_method_15_code 24 = .ok (.iconst (-1), 1) := by decide +kernel
theorem d_V_octet_25 : decode prog_1_method_15_code 25 = .ok (.ireturn, 1) := by decide +kernel
theorem d_V_poke_0 : decode prog_1_method_16_code 0 = .ok (.iload_n 1, 1) := by decide +kernel
theorem d_V_poke_1 : decode prog_1_method_16_code 1 = .ok (.iload_n 2, 1) := by decide +kernel
theorem d_V_poke_2 : decode prog_1_method_16_code 2 = .ok (.invokestatic 292, 3) := by decide +kernel
theorem d_V_poke_5 : decode prog_1_method_16_code 5 = .ok (.ifCond .ne 5, 3) := by decide +kernel
theorem d_V_poke_8 : decode prog_1_method_16_code 8 = .ok (.iconst 0, 1) := by decide +kernel
theorem d_V_poke_9 : decode prog_1_method_16_code 9 = .ok (.ireturn, 1) := by decide +kernel
theorem d_V_poke_10 : decode prog_1_method_16_code 10 = .ok (.aload_n 0, 1) := by decide +kernel
theorem d_V_poke_11 : decode prog_1_method_16_code 11 = .ok (.getfield 21, 3) := by decide +kernel
theorem d_V_poke_14 : decode prog_1_method_16_code 14 = .ok (.iload_n 1, 1) := by decide +kernel
theorem d_V_poke_15 : decode prog_1_method_16_code 15 = .ok (.bipush 32, 2) := by decide +kernel
theorem d_V_poke_17 : decode prog_1_method_16_code 17 = .ok (.imul, 1) := by decide +kernel
theorem d_V_poke_18 : decode prog_1_method_16_code 18 = .ok (.iload_n 2, 1) := by decide +kernel
theorem d_V_poke_19 : decode prog_1_method_16_code 19 = .ok (.iadd, 1) := by decide +kernel
theorem d_V_poke_20 : decode prog_1_method_16_code 20 = .ok (.iload_n 3, 1) := by decide +kernel
theorem d_V_poke_21 : decode prog_1_method_16_code 21 = .ok (.invokevirtual 296, 3) := by decide +kernel
theorem d_V_poke_24 : decode prog_1_method_16_code 24 = .ok (.aload_n 0, 1) := by decide +kernel
theorem d_V_poke_25 : decode prog_1_method_16_code 25 = .ok (.getfield 21, 3) := by decide +kernel
theorem d_V_poke_28 : decode prog_1_method_16_code 28 = .ok (.iconst 1, 1) := by decide +kernel
theorem d_V_poke_29 : decode prog_1_method_16_code 29 = .ok (.putfield 286, 3) := by decide +kernel
theorem d_V_poke_32 : decode prog_1_method_16_code 32 = .ok (.aload_n 0, 1) := by decide +kernel
theorem d_V_poke_33 : decode prog_1_method_16_code 33 = .ok (.getfield 12, 3) := by decide +kernel
theorem d_V_poke_36 : decode prog_1_method_16_code 36 = .ok (.invokevirtual 271, 3) := by decide +kernel
theorem d_V_poke_39 : decode prog_1_method_16_code 39 = .ok (.iconst 1, 1) := by decide +kernel
theorem d_V_poke_40 : decode prog_1_method_16_code 40 = .ok (.ireturn, 1) := by decide +kernel
theorem d_Table_countFree_0 : decode prog_7_method_7_code 0 = .ok (.iconst 0, 1) := by decide +kernel
theorem d_Table_countFree_1 : decode prog_7_method_7_code 1 = .ok (.istore_n 1, 1) := by decide +kernel
theorem d_Table_countFree_2 : decode prog_7_method_7_code 2 = .ok (.iconst 2, 1) := by decide +kernel
theorem d_Table_countFree_3 : decode prog_7_method_7_code 3 = .ok (.istore_n 2, 1) := by decide +kernel
theorem d_Table_countFree_4 : decode prog_7_method_7_code 4 = .ok (.iload_n 2, 1) := by decide +kernel
theorem d_Table_countFree_5 : decode prog_7_method_7_code 5 = .ok (.bipush 64, 2) := by decide +kernel
theorem d_Table_countFree_7 : decode prog_7_method_7_code 7 = .ok (.if_icmp .ge 20, 3) := by decide +kernel
theorem d_Table_countFree_10 : decode prog_7_method_7_code 10 = .ok (.aload_n 0, 1) := by decide +kernel
theorem d_Table_countFree_11 : decode prog_7_method_7_code 11 = .ok (.iload_n 2, 1) := by decide +kernel
theorem d_Table_countFree_12 : decode prog_7_method_7_code 12 = .ok (.invokevirtual 28, 3) := by decide +kernel
theorem d_Table_countFree_15 : decode prog_7_method_7_code 15 = .ok (.ifCond .eq 6, 3) := by decide +kernel
theorem d_Table_countFree_18 : decode prog_7_method_7_code 18 = .ok (.iinc 1 1, 3) := by decide +kernel
theorem d_Table_countFree_21 : decode prog_7_method_7_code 21 = .ok (.iinc 2 1, 3) := by decide +kernel
theorem d_Table_countFree_24 : decode prog_7_method_7_code 24 = .ok (.goto (-20), 3) := by decide +kernel
theorem d_Table_countFree_27 : decode prog_7_method_7_code 27 = .ok (.iload_n 1, 1) := by decide +kernel
theorem d_Table_countFree_28 : decode prog_7_method_7_code 28 = .ok (.ireturn, 1) := by decide +kernel
theorem d_V_look_0 : decode prog_1_method_17_code 0 = .ok (.iload_n 1, 1) := by decide +kernel
theorem d_V_look_1 : decode prog_1_method_17_code 1 = .ok (.tableswitch 83 0 4 #[35, 51, 59, 67, 75], 35) := by decide +kernel
theorem d_V_look_36 : decode prog_1_method_17_code 36 = .ok (.aload_n 0, 1) := by decide +kernel
theorem d_V_look_37 : decode prog_1_method_17_code 37 = .ok (.getfield 21, 3) := by decide +kernel
theorem d_V_look_40 : decode prog_1_method_17_code 40 = .ok (.getfield 262, 3) := by decide +kernel
theorem d_V_look_43 : decode prog_1_method_17_code 43 = .ok (.ifCond .eq 7, 3) := by decide +kernel
theorem d_V_look_46 : decode prog_1_method_17_code 46 = .ok (.iconst 1, 1) := by decide +kernel
theorem d_V_look_47 : decode prog_1_method_17_code 47 = .ok (.goto 4, 3) := by decide +kernel
theorem d_V_look_50 : decode prog_1_method_17_code 50 = .ok (.iconst 0, 1) := by decide +kernel
theorem d_V_look_51 : decode prog_1_method_17_code 51 = .ok (.ireturn, 1) := by decide +kernel
theorem d_V_look_52 : decode prog_1_method_17_code 52 = .ok (.aload_n 0, 1) := by decide +kernel
theorem d_V_look_53 : decode prog_1_method_17_code 53 = .ok (.getfield 21, 3) := by decide +kernel
theorem d_V_look_56 : decode prog_1_method_17_code 56 = .ok (.getfield 299, 3) := by decide +kernel
theorem d_V_look_59 : decode prog_1_method_17_code 59 = .ok (.ireturn, 1) := by decide +kernel
theorem d_V_look_60 : decode prog_1_method_17_code 60 = .ok (.aload_n 0, 1) := by decide +kernel
theorem d_V_look_61 : decode prog_1_method_17_code 61 = .ok (.getfield 30, 3) := by decide +kernel
theorem d_V_look_64 : decode prog_1_method_17_code 64 = .ok (.invokevirtual 302, 3) := by decide +kernel
theorem d_V_look_67 : decode prog_1_method_17_code 67 = .ok (.ireturn, 1) := by decide +kernel
theorem d_V_look_68 : decode prog_1_method_17_code 68 = .ok (.aload_n 0, 1) := by decide +kernel
theorem d_V_look_69 : decode prog_1_method_17_code 69 = .ok (.getfield 12, 3) := by decide +kernel
theorem d_V_look_72 : decode prog_1_method_17_code 72 = .ok (.getfield 87, 3) := by decide +kernel
theorem d_V_look_75 : decode prog_1_method_17_code 75 = .ok (.ireturn, 1) := by decide +kernel
theorem d_V_look_76 : decode prog_1_method_17_code 76 = .ok (.aload_n 0, 1) := by decide +kernel
theorem d_V_look_77 : decode prog_1_method_17_code 77 = .ok (.getfield 12, 3) := by decide +kernel
theorem d_V_look_80 : decode prog_1_method_17_code 80 = .ok (.getfield 305, 3) := by decide +kernel
theorem d_V_look_83 : decode prog_1_method_17_code 83 = .ok (.ireturn, 1) := by decide +kernel
theorem d_V_look_84 : decode prog_1_method_17_code 84 = .ok (.iload_n 1, 1) := by decide +kernel
theorem d_V_look_85 : decode prog_1_method_17_code 85 = .ok (.bipush 10, 2) := by decide +kernel
theorem d_V_look_87 : decode prog_1_method_17_code 87 = .ok (.if_icmp .lt 31, 3) := by decide +kernel
theorem d_V_look_90 : decode prog_1_method_17_code 90 = .ok (.aload_n 0, 1) := by decide +kernel
theorem d_V_look_91 : decode prog_1_method_17_code 91 = .ok (.getfield 12, 3) := by decide +kernel
theorem d_V_look_94 : decode prog_1_method_17_code 94 = .ok (.iload_n 1, 1) := by decide +kernel
theorem d_V_look_95 : decode prog_1_method_17_code 95 = .ok (.bipush 10, 2) := by decide +kernel
theorem d_V_look_97 : decode prog_1_method_17_code 97 = .ok (.isub, 1) := by decide +kernel
theorem d_V_look_98 : decode prog_1_method_17_code 98 = .ok (.invokevirtual 173, 3) := by decide +kernel
theorem d_V_look_101 : decode prog_1_method_17_code 101 = .ok (.ifCond .eq 17, 3) := by decide +kernel
theorem d_V_look_104 : decode prog_1_method_17_code 104 = .ok (.aload_n 0, 1) := by decide +kernel
theorem d_V_look_105 : decode prog_1_method_17_code 105 = .ok (.getfield 12, 3) := by decide +kernel
theorem d_V_look_108 : decode prog_1_method_17_code 108 = .ok (.iload_n 1, 1) := by decide +kernel
theorem d_V_look_109 : decode prog_1_method_17_code 109 = .ok (.bipush 10, 2) := by decide +kernel
theorem d_V_look_111 : decode prog_1_method_17_code 111 = .ok (.isub, 1) := by decide +kernel
theorem d_V_look_112 : decode prog_1_method_17_code 112 = .ok (.invokevirtual 187, 3) := by decide +kernel
theorem d_V_look_115 : decode prog_1_method_17_code 115 = .ok (.goto 4, 3) := by decide +kernel
theorem d_V_look_118 : decode prog_1_method_17_code 118 = .ok (.iconst (-1), 1) := by decide +kernel
theorem d_V_look_119 : decode prog_1_method_17_code 119 = .ok (.ireturn, 1) := by decide +kernel
