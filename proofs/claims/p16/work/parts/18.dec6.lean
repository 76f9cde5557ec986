theorem d_M_delete_65 : decode prog_9_method_39_code 65 = .ok (.if_icmp .eq 11, 3) := by decide +kernel
theorem d_M_delete_68 : decode prog_9_method_39_code 68 = .ok (.aload_n 0, 1) := by decide +kernel
theorem d_M_delete_69 : decode prog_9_method_39_code 69 = .ok (.iload_n 3, 1) := by decide +kernel
theorem d_M_delete_70 : decode prog_9_method_39_code 70 = .ok (.invokevirtual 174, 3) := by decide +kernel
theorem d_M_delete_73 : decode prog_9_method_39_code 73 = .ok (.ifCond .eq 7, 3) := by decide +kernel
theorem d_M_delete_76 : decode prog_9_method_39_code 76 = .ok (.iconst 1, 1) := by decide +kernel
theorem d_M_delete_77 : decode prog_9_method_39_code 77 = .ok (.goto 4, 3) := by decide +kernel
theorem d_M_delete_80 : decode prog_9_method_39_code 80 = .ok (.iconst 0, 1) := by decide +kernel
theorem d_M_delete_81 : decode prog_9_method_39_code 81 = .ok (.istore 4, 2) := by decide +kernel
theorem d_M_delete_83 : decode prog_9_method_39_code 83 = .ok (.iconst 0, 1) := by decide +kernel
theorem d_M_delete_84 : decode prog_9_method_39_code 84 = .ok (.istore 5, 2) := by decide +kernel
theorem d_M_delete_86 : decode prog_9_method_39_code 86 = .ok (.iload 5, 2) := by decide +kernel
theorem d_M_delete_88 : decode prog_9_method_39_code 88 = .ok (.iconst 4, 1) := by decide +kernel
theorem d_M_delete_89 : decode prog_9_method_39_code 89 = .ok (.if_icmp .ge 32, 3) := by decide +kernel
theorem d_M_delete_92 : decode prog_9_method_39_code 92 = .ok (.iload 4, 2) := by decide +kernel
theorem d_M_delete_94 : decode prog_9_method_39_code 94 = .ok (.ifCond .eq 18, 3) := by decide +kernel
theorem d_M_delete_97 : decode prog_9_method_39_code 97 = .ok (.aload_n 0, 1) := by decide +kernel
theorem d_M_delete_98 : decode prog_9_method_39_code 98 = .ok (.getfield 30, 3) := by decide +kernel
theorem d_M_delete_101 : decode prog_9_method_39_code 101 = .ok (.iload 5, 2) := by decide +kernel
theorem d_M_delete_103 : decode prog_9_method_39_code 103 = .ok (.iaload, 1) := by decide +kernel
theorem d_M_delete_104 : decode prog_9_method_39_code 104 = .ok (.iload_n 2, 1) := by decide +kernel
theorem d_M_delete_105 : decode prog_9_method_39_code 105 = .ok (.if_icmp .eq 7, 3) := by decide +kernel
theorem d_M_delete_108 : decode prog_9_method_39_code 108 = .ok (.iconst 1, 1) := by decide +kernel
theorem d_M_delete_109 : decode prog_9_method_39_code 109 = .ok (.goto 4, 3) := by decide +kernel
theorem d_M_delete_112 : decode prog_9_method_39_code 112 = .ok (.iconst 0, 1) := by decide +kernel
theorem d_M_delete_113 : decode prog_9_method_39_code 113 = .ok (.istore 4, 2) := by decide +kernel
theorem d_M_delete_115 : decode prog_9_method_39_code 115 = .ok (.iinc 5 1, 3) := by decide +kernel
theorem d_M_delete_118 : decode prog_9_method_39_code 118 = .ok (.goto (-32), 3) := by decide +kernel
theorem d_M_delete_121 : decode prog_9_method_39_code 121 = .ok (.aload_n 0, 1) := by decide +kernel
theorem d_M_delete_122 : decode prog_9_method_39_code 122 = .ok (.iload 4, 2) := by decide +kernel
theorem d_M_delete_124 : decode prog_9_method_39_code 124 = .ok (.ifCond .eq 7, 3) := by decide +kernel
theorem d_M_delete_127 : decode prog_9_method_39_code 127 = .ok (.iconst 0, 1) := by decide +kernel
theorem d_M_delete_128 : decode prog_9_method_39_code 128 = .ok (.goto 4, 3) := by decide +kernel
theorem d_M_delete_131 : decode prog_9_method_39_code 131 = .ok (.iconst 3, 1) := by decide +kernel
theorem d_M_delete_132 : decode prog_9_method_39_code 132 = .ok (.putfield 57, 3) := by decide +kernel
theorem d_M_delete_135 : decode prog_9_method_39_code 135 = .ok (.iload 4, 2) := by decide +kernel
theorem d_M_delete_137 : decode prog_9_method_39_code 137 = .ok (.ifCond .ne 4, 3) := by decide +kernel
theorem d_M_delete_140 : decode prog_9_method_39_code 140 = .ok (.return_, 1) := by decide +kernel
theorem d_M_delete_141 : decode prog_9_method_39_code 141 = .ok (.aload_n 0, 1) := by decide +kernel
theorem d_M_delete_142 : decode prog_9_method_39_code 142 = .ok (.aload_n 0, 1) := by decide +kernel
theorem d_M_delete_143 : decode prog_9_method_39_code 143 = .ok (.getfield 24, 3) := by decide +kernel
theorem d_M_delete_146 : decode prog_9_method_39_code 146 = .ok (.iload_n 1, 1) := by decide +kernel
theorem d_M_delete_147 : decode prog_9_method_39_code 147 = .ok (.invokevirtual 177, 3) := by decide +kernel
theorem d_M_delete_150 : decode prog_9_method_39_code 150 = .ok (.iload_n 3, 1) := by decide +kernel
theorem d_M_delete_151 : decode prog_9_method_39_code 151 = .ok (.iconst 2, 1) := by decide +kernel
theorem d_M_delete_152 : decode prog_9_method_39_code 152 = .ok (.bipush 63, 2) := by decide +kernel
theorem d_M_delete_154 : decode prog_9_method_39_code 154 = .ok (.invokestatic 86, 3) := by decide +kernel
theorem d_M_delete_157 : decode prog_9_method_39_code 157 = .ok (.ifCond .eq 29, 3) := by decide +kernel
theorem d_M_delete_160 : decode prog_9_method_39_code 160 = .ok (.aload_n 0, 1) := by decide +kernel
theorem d_M_delete_161 : decode prog_9_method_39_code 161 = .ok (.getfield 64, 3) := by decide +kernel
theorem d_M_delete_164 : decode prog_9_method_39_code 164 = .ok (.ifCond .ne 22, 3) := by decide +kernel
theorem d_M_delete_167 : decode prog_9_method_39_code 167 = .ok (.aload_n 0, 1) := by decide +kernel
theorem d_M_delete_168 : decode prog_9_method_39_code 168 = .ok (.iload_n 3, 1) := by decide +kernel
theorem d_M_delete_169 : decode prog_9_method_39_code 169 = .ok (.invokevirtual 80, 3) := by decide +kernel
theorem d_M_delete_172 : decode prog_9_method_39_code 172 = .ok (.istore 5, 2) := by decide +kernel
theorem d_M_delete_174 : decode prog_9_method_39_code 174 = .ok (.aload_n 0, 1) := by decide +kernel
theorem d_M_delete_175 : decode prog_9_method_39_code 175 = .ok (.iload_n 3, 1) := by decide +kernel
theorem d_M_delete_176 : decode prog_9_method_39_code 176 = .ok (.iconst 0, 1) := by decide +kernel
theorem d_M_delete_177 : decode prog_9_method_39_code 177 = .ok (.invokevirtual 83, 3) := by decide +kernel
theorem d_M_delete_180 : decode prog_9_method_39_code 180 = .ok (.iload 5, 2) := by decide +kernel
theorem d_M_delete_182 : decode prog_9_method_39_code 182 = .ok (.istore_n 3, 1) := by decide +kernel
theorem d_M_delete_183 : decode prog_9_method_39_code 183 = .ok (.goto (-33), 3) := by decide +kernel
theorem d_M_delete_186 : decode prog_9_method_39_code 186 = .ok (.aload_n 0, 1) := by decide +kernel
theorem d_M_delete_187 : decode prog_9_method_39_code 187 = .ok (.aload_n 0, 1) := by decide +kernel
theorem d_M_delete_188 : decode prog_9_method_39_code 188 = .ok (.getfield 64, 3) := by decide +kernel
theorem d_M_delete_191 : decode prog_9_method_39_code 191 = .ok (.ifCond .eq 7, 3) := by decide +kernel
theorem d_M_delete_194 : decode prog_9_method_39_code 194 = .ok (.iconst 1, 1) := by decide +kernel
theorem d_M_delete_195 : decode prog_9_method_39_code 195 = .ok (.goto 4, 3) := by decide +kernel
theorem d_M_delete_198 : decode prog_9_method_39_code 198 = .ok (.iconst 0, 1) := by decide +kernel
theorem d_M_delete_199 : decode prog_9_method_39_code 199 = .ok (.putfield 57, 3) := by decide +kernel
theorem d_M_delete_202 : decode prog_9_method_39_code 202 = .ok (.return_, 1) := by decide +kernel
theorem d_M_enter_0 : decode prog_9_method_40_code 0 = .ok (.aload_n 0, 1) := by decide +kernel
theorem d_M_enter_1 : decode prog_9_method_40_code 1 = .ok (.invokevirtual 158, 3) := by decide +kernel
theorem d_M_enter_4 : decode prog_9_method_40_code 4 = .ok (.ifCond .ne 4, 3) := by decide +kernel
theorem d_M_enter_7 : decode prog_9_method_40_code 7 = .ok (.return_, 1) := by decide +kernel
theorem d_M_enter_8 : decode prog_9_method_40_code 8 = .ok (.aload_n 0, 1) := by decide +kernel
theorem d_M_enter_9 : decode prog_9_method_40_code 9 = .ok (.getfield 67, 3) := by decide +kernel
theorem d_M_enter_12 : decode prog_9_method_40_code 12 = .ok (.ifCond .ne 14, 3) := by decide +kernel
theorem d_M_enter_15 : decode prog_9_method_40_code 15 = .ok (.aload_n 0, 1) := by decide +kernel
theorem d_M_enter_16 : decode prog_9_method_40_code 16 = .ok (.iconst 2, 1) := by decide +kernel
theorem d_M_enter_17 : decode prog_9_method_40_code 17 = .ok (.putfield 24, 3) := by decide +kernel
theorem d_M_enter_20 : decode prog_9_method_40_code 20 = .ok (.aload_n 0, 1) := by decide +kernel
theorem d_M_enter_21 : decode prog_9_method_40_code 21 = .ok (.iconst 1, 1) := by decide +kernel
theorem d_M_enter_22 : decode prog_9_method_40_code 22 = .ok (.putfield 27, 3) := by decide +kernel
theorem d_M_enter_25 : decode prog_9_method_40_code 25 = .ok (.return_, 1) := by decide +kernel
theorem d_M_enter_26 : decode prog_9_method_40_code 26 = .ok (.aload_n 0, 1) := by decide +kernel
theorem d_M_enter_27 : decode prog_9_method_40_code 27 = .ok (.invokevirtual 161, 3) := by decide +kernel
theorem d_M_enter_30 : decode prog_9_method_40_code 30 = .ok (.istore_n 1, 1) := by decide +kernel
theorem d_M_enter_31 : decode prog_9_method_40_code 31 = .ok (.aload_n 0, 1) := by decide +kernel
theorem d_M_enter_32 : decode prog_9_method_40_code 32 = .ok (.iconst 0, 1) := by decide +kernel
theorem d_M_enter_33 : decode prog_9_method_40_code 33 = .ok (.putfield 67, 3) := by decide +kernel
theorem d_M_enter_36 : decode prog_9_method_40_code 36 = .ok (.aload_n 0, 1) := by decide +kernel
theorem d_M_enter_37 : decode prog_9_method_40_code 37 = .ok (.iload_n 1, 1) := by decide +kernel
theorem d_M_enter_38 : decode prog_9_method_40_code 38 = .ok (.ifCond .lt 24, 3) := by decide +kernel
theorem d_M_enter_41 : decode prog_9_method_40_code 41 = .ok (.aload_n 0, 1) := by decide +kernel
theorem d_M_enter_42 : decode prog_9_method_40_code 42 = .ok (.getfield 7, 3) := by decide +kernel
theorem d_M_enter_45 : decode prog_9_method_40_code 45 = .ok (.aload_n 0, 1) := by decide +kernel
theorem d_M_enter_46 : decode prog_9_method_40_code 46 = .ok (.aload_n 0, 1) := by decide +kernel
theorem d_M_enter_47 : decode prog_9_method_40_code 47 = .ok (.getfield 24, 3) := by decide +kernel
theorem d_M_enter_50 : decode prog_9_method_40_code 50 = .ok (.iload_n 1, 1) := by decide +kernel
theorem d_M_enter_51 : decode prog_9_method_40_code 51 = .ok (.invokevirtual 98, 3) := by decide +kernel
theorem d_M_enter_54 : decode prog_9_method_40_code 54 = .ok (.bipush 6, 2) := by decide +kernel
theorem d_M_enter_56 : decode prog_9_method_40_code 56 = .ok (.iadd, 1) := by decide +kernel
theorem d_M_enter_57 : decode prog_9_method_40_code 57 = .ok (.iaload, 1) := by decide +kernel
theorem d_M_enter_58 : decode prog_9_method_40_code 58 = .ok (.iconst 2, 1) := by decide +kernel
theorem d_M_enter_59 : decode prog_9_method_40_code 59 = .ok (.if_icmp .eq 7, 3) := by decide +kernel
theorem d_M_enter_62 : decode prog_9_method_40_code 62 = .ok (.iconst 2, 1) := by decide +kernel
theorem d_M_enter_63 : decode prog_9_method_40_code 63 = .ok (.goto 4, 3) := by decide +kernel
theorem d_M_enter_66 : decode prog_9_method_40_code 66 = .ok (.iconst 0, 1) := by decide +kernel
theorem d_M_enter_67 : decode prog_9_method_40_code 67 = .ok (.putfield 57, 3) := by decide +kernel
theorem d_M_enter_70 : decode prog_9_method_40_code 70 = .ok (.aload_n 0, 1) := by decide +kernel
theorem d_M_enter_71 : decode prog_9_method_40_code 71 = .ok (.getfield 57, 3) := by decide +kernel
theorem d_M_enter_74 : decode prog_9_method_40_code 74 = .ok (.ifCond .ne 33, 3) := by decide +kernel
theorem d_M_enter_77 : decode prog_9_method_40_code 77 = .ok (.aload_n 0, 1) := by decide +kernel
theorem d_M_enter_78 : decode prog_9_method_40_code 78 = .ok (.aload_n 0, 1) := by decide +kernel
theorem d_M_enter_79 : decode prog_9_method_40_code 79 = .ok (.aload_n 0, 1) := by decide +kernel
theorem d_M_enter_80 : decode prog_9_method_40_code 80 = .ok (.aload_n 0, 1) := by decide +kernel
theorem d_M_enter_81 : decode prog_9_method_40_code 81 = .ok (.getfield 24, 3) := by decide +kernel
theorem d_M_enter_84 : decode prog_9_method_40_code 84 = .ok (.iload_n 1, 1) := by decide +kernel
theorem d_M_enter_85 : decode prog_9_method_40_code 85 = .ok (.invokevirtual 98, 3) := by decide +kernel
theorem d_M_enter_88 : decode prog_9_method_40_code 88 = .ok (.bipush 8, 2) := by decide +kernel
theorem d_M_enter_90 : decode prog_9_method_40_code 90 = .ok (.iadd, 1) := by decide +kernel
theorem d_M_enter_91 : decode prog_9_method_40_code 91 = .ok (.invokevirtual 60, 3) := by decide +kernel
theorem d_M_enter_94 : decode prog_9_method_40_code 94 = .ok (.putfield 24, 3) := by decide +kernel
theorem d_M_enter_97 : decode prog_9_method_40_code 97 = .ok (.aload_n 0, 1) := by decide +kernel
theorem d_M_enter_98 : decode prog_9_method_40_code 98 = .ok (.dup, 1) := by decide +kernel
theorem d_M_enter_99 : decode prog_9_method_40_code 99 = .ok (.getfield 27, 3) := by decide +kernel
theorem d_M_enter_102 : decode prog_9_method_40_code 102 = .ok (.iconst 1, 1) := by decide +kernel
theorem d_M_enter_103 : decode prog_9_method_40_code 103 = .ok (.iadd, 1) := by decide +kernel
theorem d_M_enter_104 : decode prog_9_method_40_code 104 = .ok (.putfield 27, 3) := by decide +kernel
theorem d_M_enter_107 : decode prog_9_method_40_code 107 = .ok (.return_, 1) := by decide +kernel
theorem d_M_open_0 : decode prog_9_method_41_code 0 = .ok (.aload_n 0, 1) := by decide +kernel
theorem d_M_open_1 : decode prog_9_method_41_code 1 = .ok (.invokevirtual 158, 3) := by decide +kernel
theorem d_M_open_4 : decode prog_9_method_41_code 4 = .ok (.ifCond .ne 5, 3) := by decide +kernel
theorem d_M_open_7 : decode prog_9_method_41_code 7 = .ok (.iconst 0, 1) := by decide +kernel
theorem d_M_open_8 : decode prog_9_method_41_code 8 = .ok (.ireturn, 1) := by decide +kernel
theorem d_M_open_9 : decode prog_9_method_41_code 9 = .ok (.aload_n 0, 1) := by decide +kernel
theorem d_M_open_10 : decode prog_9_method_41_code 10 = .ok (.invokevirtual 161, 3) := by decide +kernel
theorem d_M_open_13 : decode prog_9_method_41_code 13 = .ok (.istore_n 1, 1) := by decide +kernel
theorem d_M_open_14 : decode prog_9_method_41_code 14 = .ok (.aload_n 0, 1) := by decide +kernel
theorem d_M_open_15 : decode prog_9_method_41_code 15 = .ok (.iconst 0, 1) := by decide +kernel
theorem d_M_open_16 : decode prog_9_method_41_code 16 = .ok (.putfield 67, 3) := by decide +kernel
theorem d_M_open_19 : decode prog_9_method_41_code 19 = .ok (.aload_n 0, 1) := by decide +kernel
theorem d_M_open_20 : decode prog_9_method_41_code 20 = .ok (.iload_n 1, 1) := by decide +kernel
theorem d_M_open_21 : decode prog_9_method_41_code 21 = .ok (.ifCond .lt 24, 3) := by decide +kernel
theorem d_M_open_24 : decode prog_9_method_41_code 24 = .ok (.aload_n 0, 1) := by decide +kernel
theorem d_M_open_25 : decode prog_9_method_41_code 25 = .ok (.getfield 7, 3) := by decide +kernel
theorem d_M_open_28 : decode prog_9_method_41_code 28 = .ok (.aload_n 0, 1) := by decide +kernel
theorem d_M_open_29 : decode prog_9_method_41_code 29 = .ok (.aload_n 0, 1) := by decide +kernel
theorem d_M_open_30 : decode prog_9_method_41_code 30 = .ok (.getfield 24, 3) := by decide +kernel
theorem d_M_open_33 : decode prog_9_method_41_code 33 = .ok (.iload_n 1, 1) := by decide +kernel
theorem d_M_open_34 : decode prog_9_method_41_code 34 = .ok (.invokevirtual 98, 3) := by decide +kernel
theorem d_M_open_37 : decode prog_9_method_41_code 37 = .ok (.bipush 6, 2) := by decide +kernel
theorem d_M_open_39 : decode prog_9_method_41_code 39 = .ok (.iadd, 1) := by decide +kernel
theorem d_M_open_40 : decode prog_9_method_41_code 40 = .ok (.iaload, 1) := by decide +kernel
theorem d_M_open_41 : decode prog_9_method_41_code 41 = .ok (.iconst 1, 1) := by decide +kernel
theorem d_M_open_42 : decode prog_9_method_41_code 42 = .ok (.if_icmp .eq 7, 3) := by decide +kernel
theorem d_M_open_45 : decode prog_9_method_41_code 45 = .ok (.iconst 2, 1) := by decide +kernel
theorem d_M_open_46 : decode prog_9_method_41_code 46 = .ok (.goto 4, 3) := by decide +kernel
theorem d_M_open_49 : decode prog_9_method_41_code 49 = .ok (.iconst 0, 1) := by decide +kernel
theorem d_M_open_50 : decode prog_9_method_41_code 50 = .ok (.putfield 57, 3) := by decide +kernel
theorem d_M_open_53 : decode prog_9_method_41_code 53 = .ok (.aload_n 0, 1) := by decide +kernel
theorem d_M_open_54 : decode prog_9_method_41_code 54 = .ok (.getfield 57, 3) := by decide +kernel
theorem d_M_open_57 : decode prog_9_method_41_code 57 = .ok (.ifCond .le 5, 3) := by decide +kernel
theorem d_M_open_60 : decode prog_9_method_41_code 60 = .ok (.iconst 0, 1) := by decide +kernel
theorem d_M_open_61 : decode prog_9_method_41_code 61 = .ok (.ireturn, 1) := by decide +kernel
theorem d_M_open_62 : decode prog_9_method_41_code 62 = .ok (.iconst 0, 1) := by decide +kernel
theorem d_M_open_63 : decode prog_9_method_41_code 63 = .ok (.istore_n 2, 1) := by decide +kernel
theorem d_M_open_64 : decode prog_9_method_41_code 64 = .ok (.iload_n 2, 1) := by decide +kernel
theorem d_M_open_65 : decode prog_9_method_41_code 65 = .ok (.iconst 4, 1) := by decide +kernel
theorem d_M_open_66 : decode prog_9_method_41_code 66 = .ok (.if_icmp .ge 42, 3) := by decide +kernel
theorem d_M_open_69 : decode prog_9_method_41_code 69 = .ok (.aload_n 0, 1) := by decide +kernel
theorem d_M_open_70 : decode prog_9_method_41_code 70 = .ok (.getfield 30, 3) := by decide +kernel
theorem d_M_open_73 : decode prog_9_method_41_code 73 = .ok (.iload_n 2, 1) := by decide +kernel
theorem d_M_open_74 : decode prog_9_method_41_code 74 = .ok (.iaload, 1) := by decide +kernel
theorem d_M_open_75 : decode prog_9_method_41_code 75 = .ok (.ifCond .ne 27, 3) := by decide +kernel
theorem d_M_open_78 : decode prog_9_method_41_code 78 = .ok (.aload_n 0, 1) := by decide +kernel
theorem d_M_open_79 : decode prog_9_method_41_code 79 = .ok (.getfield 30, 3) := by decide +kernel
theorem d_M_open_82 : decode prog_9_method_41_code 82 = .ok (.iload_n 2, 1) := by decide +kernel
theorem d_M_open_83 : decode prog_9_method_41_code 83 = .ok (.aload_n 0, 1) := by decide +kernel
theorem d_M_open_84 : decode prog_9_method_41_code 84 = .ok (.aload_n 0, 1) := by decide +kernel
theorem d_M_open_85 : decode prog_9_method_41_code 85 = .ok (.getfield 24, 3) := by decide +kernel
theorem d_M_open_88 : decode prog_9_method_41_code 88 = .ok (.iload_n 1, 1) := by decide +kernel
theorem d_M_open_89 : decode prog_9_method_41_code 89 = .ok (.invokevirtual 98, 3) := by decide +kernel
theorem d_M_open_92 : decode prog_9_method_41_code 92 = .ok (.iastore, 1) := by decide +kernel
theorem d_M_open_93 : decode prog_9_method_41_code 93 = .ok (.aload_n 0, 1) := by decide +kernel
theorem d_M_open_94 : decode prog_9_method_41_code 94 = .ok (.getfield 33, 3) := by decide +kernel
theorem d_M_open_97 : decode prog_9_method_41_code 97 = .ok (.iload_n 2, 1) := by decide +kernel
theorem d_M_open_98 : decode prog_9_method_41_code 98 = .ok (.iconst 0, 1) := by decide +kernel
theorem d_M_open_99 : decode prog_9_method_41_code 99 = .ok (.iastore, 1) := by decide +kernel
theorem d_M_open_100 : decode prog_9_method_41_code 100 = .ok (.iload_n 2, 1) := by decide +kernel
theorem d_M_open_101 : decode prog_9_method_41_code 101 = .ok (.ireturn, 1) := by decide +kernel
theorem d_M_open_102 : decode prog_9_method_41_code 102 = .ok (.iinc 2 1, 3) := by decide +kernel
theorem d_M_open_105 : decode prog_9_method_41_code 105 = .ok (.goto (-41), 3) := by decide +kernel
theorem d_M_open_108 : decode prog_9_method_41_code 108 = .ok (.aload_n 0, 1) := by decide +kernel
theorem d_M_open_109 : decode prog_9_method_41_code 109 = .ok (.iconst 3, 1) := by decide +kernel
theorem d_M_open_110 : decode prog_9_method_41_code 110 = .ok (.putfield 57, 3) := by decide +kernel
theorem d_M_open_113 : decode prog_9_method_41_code 113 = .ok (.iconst 0, 1) := by decide +kernel
theorem d_M_open_114 : decode prog_9_method_41_code 114 = .ok (.ireturn, 1) := by decide +kernel
theorem d_M_isOpen_0 : decode prog_9_method_42_code 0 = .ok (.iload_n 1, 1) := by decide +kernel
theorem d_M_isOpen_1 : decode prog_9_method_42_code 1 = .ok (.iconst 0, 1) := by decide +kernel
theorem d_M_isOpen_2 : decode prog_9_method_42_code 2 = .ok (.iconst 3, 1) := by decide +kernel
theorem d_M_isOpen_3 : decode prog_9_method_42_code 3 = .ok (.invokestatic 86, 3) := by decide +kernel
theorem d_M_isOpen_6 : decode prog_9_method_42_code 6 = .ok (.ifCond .eq 16, 3) := by decide +kernel
theorem d_M_isOpen_9 : decode prog_9_method_42_code 9 = .ok (.aload_n 0, 1) := by decide +kernel
theorem d_M_isOpen_10 : decode prog_9_method_42_code 10 = .ok (.getfield 30, 3) := by decide +kernel
theorem d_M_isOpen_13 : decode prog_9_method_42_code 13 = .ok (.iload_n 1, 1) := by decide +kernel
theorem d_M_isOpen_14 : decode prog_9_method_42_code 14 = .ok (.iaload, 1) := by decide +kernel
theorem d_M_isOpen_15 : decode prog_9_method_42_code 15 = .ok (.ifCond .le 7, 3) := by decide +kernel
theorem d_M_isOpen_18 : decode prog_9_method_42_code 18 = .ok (.iconst 1, 1) := by decide +kernel
theorem d_M_isOpen_19 : decode prog_9_method_42_code 19 = .ok (.goto 4, 3) := by decide +kernel
theorem d_M_isOpen_22 : decode prog_9_method_42_code 22 = .ok (.iconst 0, 1) := by decide +kernel
theorem d_M_isOpen_23 : decode prog_9_method_42_code 23 = .ok (.ireturn, 1) := by decide +kernel
theorem d_M_close_0 : decode prog_9_method_43_code 0 = .ok (.aload_n 0, 1) := by decide +kernel
theorem d_M_close_1 : decode prog_9_method_43_code 1 = .ok (.iconst 0, 1) := by decide +kernel
theorem d_M_close_2 : decode prog_9_method_43_code 2 = .ok (.putfield 57, 3) := by decide +kernel
theorem d_M_close_5 : decode prog_9_method_43_code 5 = .ok (.aload_n 0, 1) := by decide +kernel
theorem d_M_close_6 : decode prog_9_method_43_code 6 = .ok (.iload_n 1, 1) := by decide +kernel
theorem d_M_close_7 : decode prog_9_method_43_code 7 = .ok (.invokevirtual 180, 3) := by decide +kernel
theorem d_M_close_10 : decode prog_9_method_43_code 10 = .ok (.ifCond .ne 5, 3) := by decide +kernel
theorem d_M_close_13 : decode prog_9_method_43_code 13 = .ok (.iconst 0, 1) := by decide +kernel
theorem d_M_close_14 : decode prog_9_method_43_code 14 = .ok (.ireturn, 1) := by decide +kernel
theorem d_M_close_15 : decode prog_9_method_43_code 15 = .ok (.aload_n 0, 1) := by decide +kernel
theorem d_M_close_16 : decode prog_9_method_43_code 16 = .ok (.getfield 30, 3) := by decide +kernel
theorem d_M_close_19 : decode prog_9_method_43_code 19 = .ok (.iload_n 1, 1) := by decide +kernel
theorem d_M_close_20 : decode prog_9_method_43_code 20 = .ok (.iconst 0, 1) := by decide +kernel
theorem d_M_close_21 : decode prog_9_method_43_code 21 = .ok (.iastore, 1) := by decide +kernel
theorem d_M_close_22 : decode prog_9_method_43_code 22 = .ok (.iconst 1, 1) := by decide +kernel
theorem d_M_close_23 : decode prog_9_method_43_code 23 = .ok (.ireturn, 1) := by decide +kernel
theorem d_M_sizeOf_0 : decode prog_9_method_44_code 0 = .ok (.aload_n 0, 1) := by decide +kernel
theorem d_M_sizeOf_1 : decode prog_9_method_44_code 1 = .ok (.aload_n 0, 1) := by decide +kernel
theorem d_M_sizeOf_2 : decode prog_9_method_44_code 2 = .ok (.getfield 30, 3) := by decide +kernel
theorem d_M_sizeOf_5 : decode prog_9_method_44_code 5 = .ok (.iload_n 1, 1) := by decide +kernel
theorem d_M_sizeOf_6 : decode prog_9_method_44_code 6 = .ok (.iaload, 1) := by decide +kernel
theorem d_M_sizeOf_7 : decode prog_9_method_44_code 7 = .ok (.bipush 10, 2) := by decide +kernel
theorem d_M_sizeOf_9 : decode prog_9_method_44_code 9 = .ok (.iadd, 1) := by decide +kernel
theorem d_M_sizeOf_10 : decode prog_9_method_44_code 10 = .ok (.invokevirtual 60, 3) := by decide +kernel
theorem d_M_sizeOf_13 : decode prog_9_method_44_code 13 = .ok (.ireturn, 1) := by decide +kernel
theorem d_M_seek_0 : decode prog_9_method_45_code 0 = .ok (.aload_n 0, 1) := by decide +kernel
theorem d_M_seek_1 : decode prog_9_method_45_code 1 = .ok (.iconst 0, 1) := by decide +kernel
theorem d_M_seek_2 : decode prog_9_method_45_code 2 = .ok (.putfield 57, 3) := by decide +kernel
theorem d_M_seek_5 : decode prog_9_method_45_code 5 = .ok (.aload_n 0, 1) := by decide +kernel
theorem d_M_seek_6 : decode prog_9_method_45_code 6 = .ok (.iload_n 1, 1) := by decide +kernel
theorem d_M_seek_7 : decode prog_9_method_45_code 7 = .ok (.invokevirtual 180, 3) := by decide +kernel
theorem d_M_seek_10 : decode prog_9_method_45_code 10 = .ok (.ifCond .eq 16, 3) := by decide +kernel
theorem d_M_seek_13 : decode prog_9_method_45_code 13 = .ok (.iload_n 2, 1) := by decide +kernel
theorem d_M_seek_14 : decode prog_9_method_45_code 14 = .ok (.iconst 0, 1) := by decide +kernel
theorem d_M_seek_15 : decode prog_9_method_45_code 15 = .ok (.aload_n 0, 1) := by decide +kernel
theorem d_M_seek_16 : decode prog_9_method_45_code 16 = .ok (.iload_n 1, 1) := by decide +kernel
theorem d_M_seek_17 : decode prog_9_method_45_code 17 = .ok (.invokevirtual 183, 3) := by decide +kernel
theorem d_M_seek_20 : decode prog_9_method_45_code 20 = .ok (.invokestatic 86, 3) := by decide +kernel
theorem d_M_seek_23 : decode prog_9_method_45_code 23 = .ok (.ifCond .ne 5, 3) := by decide +kernel
theorem d_M_seek_26 : decode prog_9_method_45_code 26 = .ok (.iconst 0, 1) := by decide +kernel
theorem d_M_seek_27 : decode prog_9_method_45_code 27 = .ok (.ireturn, 1) := by decide +kernel
theorem d_M_seek_28 : decode prog_9_method_45_code 28 = .ok (.aload_n 0, 1) := by decide +kernel
theorem d_M_seek_29 : decode prog_9_method_45_code 29 = .ok (.getfield 33, 3) := by decide +kernel
theorem d_M_seek_32 : decode prog_9_method_45_code 32 = .ok (.iload_n 1, 1) := by decide +kernel
theorem d_M_seek_33 : decode prog_9_method_45_code 33 = .ok (.iload_n 2, 1) := by decide +kernel
theorem d_M_seek_34 : decode prog_9_method_45_code 34 = .ok (.iastore, 1) := by decide +kernel
theorem d_M_seek_35 : decode prog_9_method_45_code 35 = .ok (.iconst 1, 1) := by decide +kernel
theorem d_M_seek_36 : decode prog_9_method_45_code 36 = .ok (.ireturn, 1) := by decide +kernel
theorem d_M_byteOf_0 : decode prog_9_method_46_code 0 = .ok (.bipush 32, 2) := by decide +kernel
theorem d_M_byteOf_2 : decode prog_9_method_46_code 2 = .ok (.aload_n 0, 1) := by decide +kernel
theorem d_M_byteOf_3 : decode prog_9_method_46_code 3 = .ok (.aload_n 0, 1) := by decide +kernel
theorem d_M_byteOf_4 : decode prog_9_method_46_code 4 = .ok (.aload_n 0, 1) := by decide +kernel
theorem d_M_byteOf_5 : decode prog_9_method_46_code 5 = .ok (.getfield 30, 3) := by decide +kernel
theorem d_M_byteOf_8 : decode prog_9_method_46_code 8 = .ok (.iload_n 1, 1) := by decide +kernel
theorem d_M_byteOf_9 : decode prog_9_method_46_code 9 = .ok (.iaload, 1) := by decide +kernel
theorem d_M_byteOf_10 : decode prog_9_method_46_code 10 = .ok (.bipush 8, 2) := by decide +kernel
theorem d_M_byteOf_12 : decode prog_9_method_46_code 12 = .ok (.iadd, 1) := by decide +kernel
theorem d_M_byteOf_13 : decode prog_9_method_46_code 13 = .ok (.invokevirtual 60, 3) := by decide +kernel
theorem d_M_byteOf_16 : decode prog_9_method_46_code 16 = .ok (.iload_n 2, 1) := by decide +kernel
theorem d_M_byteOf_17 : decode prog_9_method_46_code 17 = .ok (.bipush 32, 2) := by decide +kernel
theorem d_M_byteOf_19 : decode prog_9_method_46_code 19 = .ok (.idiv, 1) := by decide +kernel
theorem d_M_byteOf_20 : decode prog_9_method_46_code 20 = .ok (.invokevirtual 90, 3) := by decide +kernel
theorem d_M_byteOf_23 : decode prog_9_method_46_code 23 = .ok (.bipush 6, 2) := by decide +kernel
theorem d_M_byteOf_25 : decode prog_9_method_46_code 25 = .ok (.iadd, 1) := by decide +kernel
theorem d_M_byteOf_26 : decode prog_9_method_46_code 26 = .ok (.imul, 1) := by decide +kernel
theorem d_M_byteOf_27 : decode prog_9_method_46_code 27 = .ok (.iload_n 2, 1) := by decide +kernel
theorem d_M_byteOf_28 : decode prog_9_method_46_code 28 = .ok (.bipush 32, 2) := by decide +kernel
theorem d_M_byteOf_30 : decode prog_9_method_46_code 30 = .ok (.irem, 1) := by decide +kernel
theorem d_M_byteOf_31 : decode prog_9_method_46_code 31 = .ok (.iadd, 1) := by decide +kernel
theorem d_M_byteOf_32 : decode prog_9_method_46_code 32 = .ok (.ireturn, 1) := by decide +kernel
theorem d_M_read_0 : decode prog_9_method_47_code 0 = .ok (.aload_n 0, 1) := by decide +kernel
theorem d_M_read_1 : decode prog_9_method_47_code 1 = .ok (.invokevirtual 158, 3) := by decide +kernel
theorem d_M_read_4 : decode prog_9_method_47_code 4 = .ok (.ifCond .ne 5, 3) := by decide +kernel
theorem d_M_read_7 : decode prog_9_method_47_code 7 = .ok (.lconst 0, 1) := by decide +kernel
theorem d_M_read_8 : decode prog_9_method_47_code 8 = .ok (.lreturn, 1) := by decide +kernel
theorem d_M_read_9 : decode prog_9_method_47_code 9 = .ok (.aload_n 0, 1) := by decide +kernel
theorem d_M_read_10 : decode prog_9_method_47_code 10 = .ok (.aload_n 0, 1) := by decide +kernel
theorem d_M_read_11 : decode prog_9_method_47_code 11 = .ok (.iload_n 1, 1) := by decide +kernel
theorem d_M_read_12 : decode prog_9_method_47_code 12 = .ok (.invokevirtual 180, 3) := by decide +kernel
theorem d_M_read_15 : decode prog_9_method_47_code 15 = .ok (.ifCond .eq 17, 3) := by decide +kernel
theorem d_M_read_18 : decode prog_9_method_47_code 18 = .ok (.iload_n 2, 1) := by decide +kernel
theorem d_M_read_19 : decode prog_9_method_47_code 19 = .ok (.iconst 1, 1) := by decide +kernel
theorem d_M_read_20 : decode prog_9_method_47_code 20 = .ok (.bipush 7, 2) := by decide +kernel
theorem d_M_read_22 : decode prog_9_method_47_code 22 = .ok (.invokestatic 86, 3) := by decide +kernel
theorem d_M_read_25 : decode prog_9_method_47_code 25 = .ok (.ifCond .eq 7, 3) := by decide +kernel
theorem d_M_read_28 : decode prog_9_method_47_code 28 = .ok (.iconst 0, 1) := by decide +kernel
theorem d_M_read_29 : decode prog_9_method_47_code 29 = .ok (.goto 4, 3) := by decide +kernel
theorem d_M_read_32 : decode prog_9_method_47_code 32 = .ok (.iconst 2, 1) := by decide +kernel
theorem d_M_read_33 : decode prog_9_method_47_code 33 = .ok (.putfield 57, 3) := by decide +kernel
theorem d_M_read_36 : decode prog_9_method_47_code 36 = .ok (.aload_n 0, 1) := by decide +kernel
theorem d_M_read_37 : decode prog_9_method_47_code 37 = .ok (.getfield 57, 3) := by decide +kernel
theorem d_M_read_40 : decode prog_9_method_47_code 40 = .ok (.ifCond .le 5, 3) := by decide +kernel
theorem d_M_read_43 : decode prog_9_method_47_code 43 = .ok (.lconst 0, 1) := by decide +kernel
theorem d_M_read_44 : decode prog_9_method_47_code 44 = .ok (.lreturn, 1) := by decide +kernel
theorem d_M_read_45 : decode prog_9_method_47_code 45 = .ok (.aload_n 0, 1) := by decide +kernel
theorem d_M_read_46 : decode prog_9_method_47_code 46 = .ok (.iload_n 1, 1) := by decide +kernel
theorem d_M_read_47 : decode prog_9_method_47_code 47 = .ok (.invokevirtual 183, 3) := by decide +kernel
theorem d_M_read_50 : decode prog_9_method_47_code 50 = .ok (.aload_n 0, 1) := by decide +kernel
theorem d_M_read_51 : decode prog_9_method_47_code 51 = .ok (.getfield 33, 3) := by decide +kernel
theorem d_M_read_54 : decode prog_9_method_47_code 54 = .ok (.iload_n 1, 1) := by decide +kernel
theorem d_M_read_55 : decode prog_9_method_47_code 55 = .ok (.iaload, 1) := by decide +kernel
theorem d_M_read_56 : decode prog_9_method_47_code 56 = .ok (.isub, 1) := by decide +kernel
theorem d_M_read_57 : decode prog_9_method_47_code 57 = .ok (.istore_n 3, 1) := by decide +kernel
theorem d_M_read_58 : decode prog_9_method_47_code 58 = .ok (.iload_n 2, 1) := by decide +kernel
theorem d_M_read_59 : decode prog_9_method_47_code 59 = .ok (.iload_n 3, 1) := by decide +kernel
theorem d_M_read_60 : decode prog_9_method_47_code 60 = .ok (.if_icmp .ge 7, 3) := by decide +kernel
theorem d_M_read_63 : decode prog_9_method_47_code 63 = .ok (.iload_n 2, 1) := by decide +kernel
theorem d_M_read_64 : decode prog_9_method_47_code 64 = .ok (.goto 4, 3) := by decide +kernel
theorem d_M_read_67 : decode prog_9_method_47_code 67 = .ok (.iload_n 3, 1) := by decide +kernel
theorem d_M_read_68 : decode prog_9_method_47_code 68 = .ok (.istore 4, 2) := by decide +kernel
theorem d_M_read_70 : decode prog_9_method_47_code 70 = .ok (.lconst 0, 1) := by decide +kernel
theorem d_M_read_71 : decode prog_9_method_47_code 71 = .ok (.lstore 5, 2) := by decide +kernel
theorem d_M_read_73 : decode prog_9_method_47_code 73 = .ok (.iconst 0, 1) := by decide +kernel
theorem d_M_read_74 : decode prog_9_method_47_code 74 = .ok (.istore 7, 2) := by decide +kernel
theorem d_M_read_76 : decode prog_9_method_47_code 76 = .ok (.iload 7, 2) := by decide +kernel
theorem d_M_read_78 : decode prog_9_method_47_code 78 = .ok (.iload 4, 2) := by decide +kernel
theorem d_M_read_80 : decode prog_9_method_47_code 80 = .ok (.if_icmp .ge 45, 3) := by decide +kernel
theorem d_M_read_83 : decode prog_9_method_47_code 83 = .ok (.lload 5, 2) := by decide +kernel
theorem d_M_read_85 : decode prog_9_method_47_code 85 = .ok (.ldc2_w 186, 3) := by decide +kernel
theorem d_M_read_88 : decode prog_9_method_47_code 88 = .ok (.lmul, 1) := by decide +kernel
theorem d_M_read_89 : decode prog_9_method_47_code 89 = .ok (.aload_n 0, 1) := by decide +kernel
theorem d_M_read_90 : decode prog_9_method_47_code 90 = .ok (.getfield 7, 3) := by decide +kernel
theorem d_M_read_93 : decode prog_9_method_47_code 93 = .ok (.aload_n 0, 1) := by decide +kernel
theorem d_M_read_94 : decode prog_9_method_47_code 94 = .ok (.iload_n 1, 1) := by decide +kernel
theorem d_M_read_95 : decode prog_9_method_47_code 95 = .ok (.aload_n 0, 1) := by decide +kernel
theorem d_M_read_96 : decode prog_9_method_47_code 96 = .ok (.getfield 33, 3) := by decide +kernel
theorem d_M_read_99 : decode prog_9_method_47_code 99 = .ok (.iload_n 1, 1) := by decide +kernel
theorem d_M_read_100 : decode prog_9_method_47_code 100 = .ok (.iaload, 1) := by decide +kernel
theorem d_M_read_101 : decode prog_9_method_47_code 101 = .ok (.invokevirtual 188, 3) := by decide +kernel
theorem d_M_read_104 : decode prog_9_method_47_code 104 = .ok (.iaload, 1) := by decide +kernel
theorem d_M_read_105 : decode prog_9_method_47_code 105 = .ok (.i2l, 1) := by decide +kernel
theorem d_M_read_106 : decode prog_9_method_47_code 106 = .ok (.ladd, 1) := by decide +kernel
theorem d_M_read_107 : decode prog_9_method_47_code 107 = .ok (.lstore 5, 2) := by decide +kernel
theorem d_M_read_109 : decode prog_9_method_47_code 109 = .ok (.aload_n 0, 1) := by decide +kernel
theorem d_M_read_110 : decode prog_9_method_47_code 110 = .ok (.getfield 33, 3) := by decide +kernel
theorem d_M_read_113 : decode prog_9_method_47_code 113 = .ok (.iload_n 1, 1) := by decide +kernel
theorem d_M_read_114 : decode prog_9_method_47_code 114 = .ok (.dup2, 1) := by decide +kernel
theorem d_M_read_115 : decode prog_9_method_47_code 115 = .ok (.iaload, 1) := by decide +kernel
theorem d_M_read_116 : decode prog_9_method_47_code 116 = .ok (.iconst 1, 1) := by decide +kernel
theorem d_M_read_117 : decode prog_9_method_47_code 117 = .ok (.iadd, 1) := by decide +kernel
theorem d_M_read_118 : decode prog_9_method_47_code 118 = .ok (.iastore, 1) := by decide +kernel
theorem d_M_read_119 : decode prog_9_method_47_code 119 = .ok (.iinc 7 1, 3) := by decide +kernel
theorem d_M_read_122 : decode prog_9_method_47_code 122 = .ok (.goto (-46), 3) := by decide +kernel
theorem d_M_read_125 : decode prog_9_method_47_code 125 = .ok (.iload 4, 2) := by decide +kernel
theorem d_M_read_127 : decode prog_9_method_47_code 127 = .ok (.i2l, 1) := by decide +kernel
theorem d_M_read_128 : decode prog_9_method_47_code 128 = .ok (.bipush 56, 2) := by decide +kernel
theorem d_M_read_130 : decode prog_9_method_47_code 130 = .ok (.lshl, 1) := by decide +kernel
theorem d_M_read_131 : decode prog_9_method_47_code 131 = .ok (.lload 5, 2) := by decide +kernel
theorem d_M_read_133 : decode prog_9_method_47_code 133 = .ok (.ladd, 1) := by decide +kernel
theorem d_M_read_134 : decode prog_9_method_47_code 134 = .ok (.lreturn, 1) := by decide +kernel
theorem d_M_writeNumber_0 : decode prog_9_method_10_code 0 = .ok (.aload_n 0, 1) := by decide +kernel
theorem d_M_writeNumber_1 : decode prog_9_method_10_code 1 = .ok (.invokevirtual 76, 3) := by decide +kernel
theorem d_M_writeNumber_4 : decode prog_9_method_10_code 4 = .ok (.ifCond .eq 9, 3) := by decide +kernel
theorem d_M_writeNumber_7 : decode prog_9_method_10_code 7 = .ok (.aload_n 0, 1) := by decide +kernel
theorem d_M_writeNumber_8 : decode prog_9_method_10_code 8 = .ok (.iload_n 1, 1) := by decide +kernel
theorem d_M_writeNumber_9 : decode prog_9_method_10_code 9 = .ok (.iload_n 2, 1) := by decide +kernel
theorem d_M_writeNumber_10 : decode prog_9_method_10_code 10 = .ok (.invokevirtual 53, 3) := by decide +kernel
theorem d_M_writeNumber_13 : decode prog_9_method_10_code 13 = .ok (.return_, 1) := by decide +kernel
theorem d_M_fill_0 : decode prog_9_method_49_code 0 = .ok (.iload_n 2, 1) := by decide +kernel
theorem d_M_fill_1 : decode prog_9_method_49_code 1 = .ok (.istore 7, 2) := by decide +kernel
theorem d_M_fill_3 : decode prog_9_method_49_code 3 = .ok (.iload 7, 2) := by decide +kernel
theorem d_M_fill_5 : decode prog_9_method_49_code 5 = .ok (.iload_n 2, 1) := by decide +kernel
theorem d_M_fill_6 : decode prog_9_method_49_code 6 = .ok (.iload_n 3, 1) := by decide +kernel
theorem d_M_fill_7 : decode prog_9_method_49_code 7 = .ok (.iadd, 1) := by decide +kernel
theorem d_M_fill_8 : decode prog_9_method_49_code 8 = .ok (.if_icmp .ge 103, 3) := by decide +kernel
theorem d_M_fill_11 : decode prog_9_method_49_code 11 = .ok (.iload 7, 2) := by decide +kernel
theorem d_M_fill_13 : decode prog_9_method_49_code 13 = .ok (.iload_n 2, 1) := by decide +kernel
theorem d_M_fill_14 : decode prog_9_method_49_code 14 = .ok (.if_icmp .le 26, 3) := by decide +kernel
theorem d_M_fill_17 : decode prog_9_method_49_code 17 = .ok (.iload 7, 2) := by decide +kernel
theorem d_M_fill_19 : decode prog_9_method_49_code 19 = .ok (.bipush 32, 2) := by decide +kernel
theorem d_M_fill_21 : decode prog_9_method_49_code 21 = .ok (.irem, 1) := by decide +kernel
theorem d_M_fill_22 : decode prog_9_method_49_code 22 = .ok (.ifCond .eq 18, 3) := by decide +kernel
theorem d_M_fill_25 : decode prog_9_method_49_code 25 = .ok (.aload_n 0, 1) := by decide +kernel
theorem d_M_fill_26 : decode prog_9_method_49_code 26 = .ok (.getfield 64, 3) := by decide +kernel
theorem d_M_fill_29 : decode prog_9_method_49_code 29 = .ok (.ifCond .ne 7, 3) := by decide +kernel
theorem d_M_fill_32 : decode prog_9_method_49_code 32 = .ok (.iconst 1, 1) := by decide +kernel
theorem d_M_fill_33 : decode prog_9_method_49_code 33 = .ok (.goto 11, 3) := by decide +kernel
theorem d_M_fill_36 : decode prog_9_method_49_code 36 = .ok (.iconst 0, 1) := by decide +kernel
theorem d_M_fill_37 : decode prog_9_method_49_code 37 = .ok (.goto 7, 3) := by decide +kernel
theorem d_M_fill_40 : decode prog_9_method_49_code 40 = .ok (.aload_n 0, 1) := by decide +kernel
theorem d_M_fill_41 : decode prog_9_method_49_code 41 = .ok (.invokevirtual 76, 3) := by decide +kernel
theorem d_M_fill_44 : decode prog_9_method_49_code 44 = .ok (.istore 8, 2) := by decide +kernel
theorem d_M_fill_46 : decode prog_9_method_49_code 46 = .ok (.iload 8, 2) := by decide +kernel
theorem d_M_fill_48 : decode prog_9_method_49_code 48 = .ok (.ifCond .eq 57, 3) := by decide +kernel
theorem d_M_fill_51 : decode prog_9_method_49_code 51 = .ok (.aload_n 0, 1) := by decide +kernel
theorem d_M_fill_52 : decode prog_9_method_49_code 52 = .ok (.getfield 7, 3) := by decide +kernel
theorem d_M_fill_55 : decode prog_9_method_49_code 55 = .ok (.bipush 32, 2) := by decide +kernel
theorem d_M_fill_57 : decode prog_9_method_49_code 57 = .ok (.aload_n 0, 1) := by decide +kernel
theorem d_M_fill_58 : decode prog_9_method_49_code 58 = .ok (.aload_n 0, 1) := by decide +kernel
theorem d_M_fill_59 : decode prog_9_method_49_code 59 = .ok (.iload_n 1, 1) := by decide +kernel
theorem d_M_fill_60 : decode prog_9_method_49_code 60 = .ok (.bipush 8, 2) := by decide +kernel
theorem d_M_fill_62 : decode prog_9_method_49_code 62 = .ok (.iadd, 1) := by decide +kernel
theorem d_M_fill_63 : decode prog_9_method_49_code 63 = .ok (.invokevirtual 60, 3) := by decide +kernel
theorem d_M_fill_66 : decode prog_9_method_49_code 66 = .ok (.iload 7, 2) := by decide +kernel
theorem d_M_fill_68 : decode prog_9_method_49_code 68 = .ok (.bipush 32, 2) := by decide +kernel
theorem d_M_fill_70 : decode prog_9_method_49_code 70 = .ok (.idiv, 1) := by decide +kernel
theorem d_M_fill_71 : decode prog_9_method_49_code 71 = .ok (.invokevirtual 90, 3) := by decide +kernel
theorem d_M_fill_74 : decode prog_9_method_49_code 74 = .ok (.bipush 6, 2) := by decide +kernel
theorem d_M_fill_76 : decode prog_9_method_49_code 76 = .ok (.iadd, 1) := by decide +kernel
theorem d_M_fill_77 : decode prog_9_method_49_code 77 = .ok (.imul, 1) := by decide +kernel
theorem d_M_fill_78 : decode prog_9_method_49_code 78 = .ok (.iload 7, 2) := by decide +kernel
theorem d_M_fill_80 : decode prog_9_method_49_code 80 = .ok (.bipush 32, 2) := by decide +kernel
theorem d_M_fill_82 : decode prog_9_method_49_code 82 = .ok (.irem, 1) := by decide +kernel
theorem d_M_fill_83 : decode prog_9_method_49_code 83 = .ok (.iadd, 1) := by decide +kernel
theorem d_M_fill_84 : decode prog_9_method_49_code 84 = .ok (.lload 4, 2) := by decide +kernel
theorem d_M_fill_86 : decode prog_9_method_49_code 86 = .ok (.bipush 8, 2) := by decide +kernel
theorem d_M_fill_88 : decode prog_9_method_49_code 88 = .ok (.iload 6, 2) := by decide +kernel
theorem d_M_fill_90 : decode prog_9_method_49_code 90 = .ok (.iconst 1, 1) := by decide +kernel
theorem d_M_fill_91 : decode prog_9_method_49_code 91 = .ok (.isub, 1) := by decide +kernel
theorem d_M_fill_92 : decode prog_9_method_49_code 92 = .ok (.iload 7, 2) := by decide +kernel
theorem d_M_fill_94 : decode prog_9_method_49_code 94 = .ok (.isub, 1) := by decide +kernel
theorem d_M_fill_95 : decode prog_9_method_49_code 95 = .ok (.iload_n 2, 1) := by decide +kernel
theorem d_M_fill_96 : decode prog_9_method_49_code 96 = .ok (.iadd, 1) := by decide +kernel
theorem d_M_fill_97 : decode prog_9_method_49_code 97 = .ok (.imul, 1) := by decide +kernel
theorem d_M_fill_98 : decode prog_9_method_49_code 98 = .ok (.lshr, 1) := by decide +kernel
theorem d_M_fill_99 : decode prog_9_method_49_code 99 = .ok (.ldc2_w 198, 3) := by decide +kernel
theorem d_M_fill_102 : decode prog_9_method_49_code 102 = .ok (.land, 1) := by decide +kernel
theorem d_M_fill_103 : decode prog_9_method_49_code 103 = .ok (.l2i, 1) := by decide +kernel
theorem d_M_fill_104 : decode prog_9_method_49_code 104 = .ok (.iastore, 1) := by decide +kernel
theorem d_M_fill_105 : decode prog_9_method_49_code 105 = .ok (.iinc 7 1, 3) := by decide +kernel
theorem d_M_fill_108 : decode prog_9_method_49_code 108 = .ok (.goto (-105), 3) := by decide +kernel
theorem d_M_fill_111 : decode prog_9_method_49_code 111 = .ok (.return_, 1) := by decide +kernel
theorem d_M_write_0 : decode prog_9_method_48_code 0 = .ok (.aload_n 0, 1) := by decide +kernel
theorem d_M_write_1 : decode prog_9_method_48_code 1 = .ok (.invokevirtual 158, 3) := by decide +kernel
theorem d_M_write_4 : decode prog_9_method_48_code 4 = .ok (.ifCond .ne 5, 3) := by decide +kernel
theorem d_M_write_7 : decode prog_9_method_48_code 7 = .ok (.iconst 0, 1) := by decide +kernel
theorem d_M_write_8 : decode prog_9_method_48_code 8 = .ok (.ireturn, 1) := by decide +kernel
theorem d_M_write_9 : decode prog_9_method_48_code 9 = .ok (.aload_n 0, 1) := by decide +kernel
theorem d_M_write_10 : decode prog_9_method_48_code 10 = .ok (.aload_n 0, 1) := by decide +kernel
theorem d_M_write_11 : decode prog_9_method_48_code 11 = .ok (.iload_n 1, 1) := by decide +kernel
theorem d_M_write_12 : decode prog_9_method_48_code 12 = .ok (.invokevirtual 180, 3) := by decide +kernel
theorem d_M_write_15 : decode prog_9_method_48_code 15 = .ok (.ifCond .eq 14, 3) := by decide +kernel
theorem d_M_write_18 : decode prog_9_method_48_code 18 = .ok (.iload 4, 2) := by decide +kernel
theorem d_M_write_20 : decode prog_9_method_48_code 20 = .ok (.iconst 1, 1) := by decide +kernel
theorem d_M_write_21 : decode prog_9_method_48_code 21 = .ok (.bipush 8, 2) := by decide +kernel
theorem d_M_write_23 : decode prog_9_method_48_code 23 = .ok (.invokestatic 86, 3) := by decide +kernel
theorem d_M_write_26 : decode prog_9_method_48_code 26 = .ok (.ifCond .ne 7, 3) := by decide +kernel
theorem d_M_write_29 : decode prog_9_method_48_code 29 = .ok (.iconst 2, 1) := by decide +kernel
theorem d_M_write_30 : decode prog_9_method_48_code 30 = .ok (.goto 23, 3) := by decide +kernel
theorem d_M_write_33 : decode prog_9_method_48_code 33 = .ok (.aload_n 0, 1) := by decide +kernel
theorem d_M_write_34 : decode prog_9_method_48_code 34 = .ok (.getfield 33, 3) := by decide +kernel
theorem d_M_write_37 : decode prog_9_method_48_code 37 = .ok (.iload_n 1, 1) := by decide +kernel
theorem d_M_write_38 : decode prog_9_method_48_code 38 = .ok (.iaload, 1) := by decide +kernel
theorem d_M_write_39 : decode prog_9_method_48_code 39 = .ok (.iload 4, 2) := by decide +kernel
theorem d_M_write_41 : decode prog_9_method_48_code 41 = .ok (.iadd, 1) := by decide +kernel
theorem d_M_write_42 : decode prog_9_method_48_code 42 = .ok (.sipush 1024, 3) := by decide +kernel
theorem d_M_write_45 : decode prog_9_method_48_code 45 = .ok (.if_icmp .le 7, 3) := by decide +kernel
theorem d_M_write_48 : decode prog_9_method_48_code 48 = .ok (.iconst 3, 1) := by decide +kernel
theorem d_M_write_49 : decode prog_9_method_48_code 49 = .ok (.goto 4, 3) := by decide +kernel
theorem d_M_write_52 : decode prog_9_method_48_code 52 = .ok (.iconst 0, 1) := by decide +kernel
theorem d_M_write_53 : decode prog_9_method_48_code 53 = .ok (.putfield 57, 3) := by decide +kernel
theorem d_M_write_56 : decode prog_9_method_48_code 56 = .ok (.aload_n 0, 1) := by decide +kernel
theorem d_M_write_57 : decode prog_9_method_48_code 57 = .ok (.getfield 57, 3) := by decide +kernel
theorem d_M_write_60 : decode prog_9_method_48_code 60 = .ok (.ifCond .le 5, 3) := by decide +kernel
theorem d_M_write_63 : decode prog_9_method_48_code 63 = .ok (.iconst 0, 1) := by decide +kernel
theorem d_M_write_64 : decode prog_9_method_48_code 64 = .ok (.ireturn, 1) := by decide +kernel
theorem d_M_write_65 : decode prog_9_method_48_code 65 = .ok (.aload_n 0, 1) := by decide +kernel
theorem d_M_write_66 : decode prog_9_method_48_code 66 = .ok (.getfield 30, 3) := by decide +kernel
theorem d_M_write_69 : decode prog_9_method_48_code 69 = .ok (.iload_n 1, 1) := by decide +kernel
theorem d_M_write_70 : decode prog_9_method_48_code 70 = .ok (.iaload, 1) := by decide +kernel
theorem d_M_write_71 : decode prog_9_method_48_code 71 = .ok (.istore 5, 2) := by decide +kernel
theorem d_M_write_73 : decode prog_9_method_48_code 73 = .ok (.aload_n 0, 1) := by decide +kernel
theorem d_M_write_74 : decode prog_9_method_48_code 74 = .ok (.getfield 33, 3) := by decide +kernel
theorem d_M_write_77 : decode prog_9_method_48_code 77 = .ok (.iload_n 1, 1) := by decide +kernel
theorem d_M_write_78 : decode prog_9_method_48_code 78 = .ok (.iaload, 1) := by decide +kernel
theorem d_M_write_79 : decode prog_9_method_48_code 79 = .ok (.istore 6, 2) := by decide +kernel
theorem d_M_write_81 : decode prog_9_method_48_code 81 = .ok (.aload_n 0, 1) := by decide +kernel
theorem d_M_write_82 : decode prog_9_method_48_code 82 = .ok (.aload_n 0, 1) := by decide +kernel
theorem d_M_write_83 : decode prog_9_method_48_code 83 = .ok (.iload 5, 2) := by decide +kernel
theorem d_M_write_85 : decode prog_9_method_48_code 85 = .ok (.bipush 8, 2) := by decide +kernel
theorem d_M_write_87 : decode prog_9_method_48_code 87 = .ok (.iadd, 1) := by decide +kernel
theorem d_M_write_88 : decode prog_9_method_48_code 88 = .ok (.invokevirtual 60, 3) := by decide +kernel
theorem d_M_write_91 : decode prog_9_method_48_code 91 = .ok (.invokevirtual 126, 3) := by decide +kernel
theorem d_M_write_94 : decode prog_9_method_48_code 94 = .ok (.istore 7, 2) := by decide +kernel
theorem d_M_write_96 : decode prog_9_method_48_code 96 = .ok (.iconst 1, 1) := by decide +kernel
theorem d_M_write_97 : decode prog_9_method_48_code 97 = .ok (.istore 8, 2) := by decide +kernel
theorem d_M_write_99 : decode prog_9_method_48_code 99 = .ok (.iload 8, 2) := by decide +kernel
theorem d_M_write_101 : decode prog_9_method_48_code 101 = .ok (.ifCond .eq 94, 3) := by decide +kernel
theorem d_M_write_104 : decode prog_9_method_48_code 104 = .ok (.bipush 32, 2) := by decide +kernel
theorem d_M_write_106 : decode prog_9_method_48_code 106 = .ok (.iload 7, 2) := by decide +kernel
theorem d_M_write_108 : decode prog_9_method_48_code 108 = .ok (.imul, 1) := by decide +kernel
theorem d_M_write_109 : decode prog_9_method_48_code 109 = .ok (.iload 6, 2) := by decide +kernel
theorem d_M_write_111 : decode prog_9_method_48_code 111 = .ok (.iload 4, 2) := by decide +kernel
theorem d_M_write_113 : decode prog_9_method_48_code 113 = .ok (.iadd, 1) := by decide +kernel
theorem d_M_write_114 : decode prog_9_method_48_code 114 = .ok (.if_icmp .ge 81, 3) := by decide +kernel
theorem d_M_write_117 : decode prog_9_method_48_code 117 = .ok (.aload_n 0, 1) := by decide +kernel
theorem d_M_write_118 : decode prog_9_method_48_code 118 = .ok (.getfield 64, 3) := by decide +kernel
theorem d_M_write_121 : decode prog_9_method_48_code 121 = .ok (.ifCond .ne 74, 3) := by decide +kernel
theorem d_M_write_124 : decode prog_9_method_48_code 124 = .ok (.aload_n 0, 1) := by decide +kernel
theorem d_M_write_125 : decode prog_9_method_48_code 125 = .ok (.invokevirtual 144, 3) := by decide +kernel
theorem d_M_write_128 : decode prog_9_method_48_code 128 = .ok (.istore 9, 2) := by decide +kernel
theorem d_M_write_130 : decode prog_9_method_48_code 130 = .ok (.iload 9, 2) := by decide +kernel
theorem d_M_write_132 : decode prog_9_method_48_code 132 = .ok (.ifCond .le 7, 3) := by decide +kernel
theorem d_M_write_135 : decode prog_9_method_48_code 135 = .ok (.iconst 1, 1) := by decide +kernel
theorem d_M_write_136 : decode prog_9_method_48_code 136 = .ok (.goto 4, 3) := by decide +kernel
theorem d_M_write_139 : decode prog_9_method_48_code 139 = .ok (.iconst 0, 1) := by decide +kernel
theorem d_M_write_140 : decode prog_9_method_48_code 140 = .ok (.istore 8, 2) := by decide +kernel
theorem d_M_write_142 : decode prog_9_method_48_code 142 = .ok (.iload 8, 2) := by decide +kernel
theorem d_M_write_144 : decode prog_9_method_48_code 144 = .ok (.ifCond .eq 48, 3) := by decide +kernel
theorem d_M_write_147 : decode prog_9_method_48_code 147 = .ok (.iload 7, 2) := by decide +kernel
theorem d_M_write_149 : decode prog_9_method_48_code 149 = .ok (.ifCond .ne 17, 3) := by decide +kernel
theorem d_M_write_152 : decode prog_9_method_48_code 152 = .ok (.aload_n 0, 1) := by decide +kernel
theorem d_M_write_153 : decode prog_9_method_48_code 153 = .ok (.iload 5, 2) := by decide +kernel
theorem d_M_write_155 : decode prog_9_method_48_code 155 = .ok (.bipush 8, 2) := by decide +kernel
theorem d_M_write_157 : decode prog_9_method_48_code 157 = .ok (.iadd, 1) := by decide +kernel
theorem d_M_write_158 : decode prog_9_method_48_code 158 = .ok (.iload 9, 2) := by decide +kernel
theorem d_M_write_160 : decode prog_9_method_48_code 160 = .ok (.invokevirtual 191, 3) := by decide +kernel
theorem d_M_write_163 : decode prog_9_method_48_code 163 = .ok (.goto 26, 3) := by decide +kernel
theorem d_M_write_166 : decode prog_9_method_48_code 166 = .ok (.aload_n 0, 1) := by decide +kernel
theorem d_M_write_167 : decode prog_9_method_48_code 167 = .ok (.aload_n 0, 1) := by decide +kernel
theorem d_M_write_168 : decode prog_9_method_48_code 168 = .ok (.aload_n 0, 1) := by decide +kernel
theorem d_M_write_169 : decode prog_9_method_48_code 169 = .ok (.iload 5, 2) := by decide +kernel
theorem d_M_write_171 : decode prog_9_method_48_code 171 = .ok (.bipush 8, 2) := by decide +kernel
theorem d_M_write_173 : decode prog_9_method_48_code 173 = .ok (.iadd, 1) := by decide +kernel
theorem d_M_write_174 : decode prog_9_method_48_code 174 = .ok (.invokevirtual 60, 3) := by decide +kernel
theorem d_M_write_177 : decode prog_9_method_48_code 177 = .ok (.iload 7, 2) := by decide +kernel
theorem d_M_write_179 : decode prog_9_method_48_code 179 = .ok (.iconst 1, 1) := by decide +kernel
theorem d_M_write_180 : decode prog_9_method_48_code 180 = .ok (.isub, 1) := by decide +kernel
theorem d_M_write_181 : decode prog_9_method_48_code 181 = .ok (.invokevirtual 90, 3) := by decide +kernel
theorem d_M_write_184 : decode prog_9_method_48_code 184 = .ok (.iload 9, 2) := by decide +kernel
theorem d_M_write_186 : decode prog_9_method_48_code 186 = .ok (.invokevirtual 83, 3) := by decide +kernel
theorem d_M_write_189 : decode prog_9_method_48_code 189 = .ok (.iinc 7 1, 3) := by decide +kernel
theorem d_M_write_192 : decode prog_9_method_48_code 192 = .ok (.goto (-93), 3) := by decide +kernel
theorem d_M_write_195 : decode prog_9_method_48_code 195 = .ok (.bipush 32, 2) := by decide +kernel
theorem d_M_write_197 : decode prog_9_method_48_code 197 = .ok (.iload 7, 2) := by decide +kernel
theorem d_M_write_199 : decode prog_9_method_48_code 199 = .ok (.imul, 1) := by decide +kernel
theorem d_M_write_200 : decode prog_9_method_48_code 200 = .ok (.iload 6, 2) := by decide +kernel
theorem d_M_write_202 : decode prog_9_method_48_code 202 = .ok (.isub, 1) := by decide +kernel
theorem d_M_write_203 : decode prog_9_method_48_code 203 = .ok (.iload 4, 2) := by decide +kernel
theorem d_M_write_205 : decode prog_9_method_48_code 205 = .ok (.if_icmp .ge 14, 3) := by decide +kernel
theorem d_M_write_208 : decode prog_9_method_48_code 208 = .ok (.bipush 32, 2) := by decide +kernel
theorem d_M_write_210 : decode prog_9_method_48_code 210 = .ok (.iload 7, 2) := by decide +kernel
theorem d_M_write_212 : decode prog_9_method_48_code 212 = .ok (.imul, 1) := by decide +kernel
theorem d_M_write_213 : decode prog_9_method_48_code 213 = .ok (.iload 6, 2) := by decide +kernel
theorem d_M_write_215 : decode prog_9_method_48_code 215 = .ok (.isub, 1) := by decide +kernel
theorem d_M_write_216 : decode prog_9_method_48_code 216 = .ok (.goto 5, 3) := by decide +kernel
theorem d_M_write_219 : decode prog_9_method_48_code 219 = .ok (.iload 4, 2) := by decide +kernel
theorem d_M_write_221 : decode prog_9_method_48_code 221 = .ok (.istore 9, 2) := by decide +kernel
theorem d_M_write_223 : decode prog_9_method_48_code 223 = .ok (.aload_n 0, 1) := by decide +kernel
theorem d_M_write_224 : decode prog_9_method_48_code 224 = .ok (.aload_n 0, 1) := by decide +kernel
theorem d_M_write_225 : decode prog_9_method_48_code 225 = .ok (.getfield 64, 3) := by decide +kernel
theorem d_M_write_228 : decode prog_9_method_48_code 228 = .ok (.ifCond .eq 7, 3) := by decide +kernel
theorem d_M_write_231 : decode prog_9_method_48_code 231 = .ok (.iconst 1, 1) := by decide +kernel
theorem d_M_write_232 : decode prog_9_method_48_code 232 = .ok (.goto 13, 3) := by decide +kernel
theorem d_M_write_235 : decode prog_9_method_48_code 235 = .ok (.iload 9, 2) := by decide +kernel
theorem d_M_write_237 : decode prog_9_method_48_code 237 = .ok (.ifCond .gt 7, 3) := by decide +kernel
theorem d_M_write_240 : decode prog_9_method_48_code 240 = .ok (.iconst 3, 1) := by decide +kernel
theorem d_M_write_241 : decode prog_9_method_48_code 241 = .ok (.goto 4, 3) := by decide +kernel
theorem d_M_write_244 : decode prog_9_method_48_code 244 = .ok (.iconst 0, 1) := by decide +kernel
theorem d_M_write_245 : decode prog_9_method_48_code 245 = .ok (.putfield 57, 3) := by decide +kernel
theorem d_M_write_248 : decode prog_9_method_48_code 248 = .ok (.aload_n 0, 1) := by decide +kernel
theorem d_M_write_249 : decode prog_9_method_48_code 249 = .ok (.getfield 57, 3) := by decide +kernel
theorem d_M_write_252 : decode prog_9_method_48_code 252 = .ok (.ifCond .le 5, 3) := by decide +kernel
theorem d_M_write_255 : decode prog_9_method_48_code 255 = .ok (.iconst 0, 1) := by decide +kernel
theorem d_M_write_256 : decode prog_9_method_48_code 256 = .ok (.ireturn, 1) := by decide +kernel
theorem d_M_write_257 : decode prog_9_method_48_code 257 = .ok (.aload_n 0, 1) := by decide +kernel
theorem d_M_write_258 : decode prog_9_method_48_code 258 = .ok (.iload 5, 2) := by decide +kernel
theorem d_M_write_260 : decode prog_9_method_48_code 260 = .ok (.iload 6, 2) := by decide +kernel
theorem d_M_write_262 : decode prog_9_method_48_code 262 = .ok (.iload 9, 2) := by decide +kernel
theorem d_M_write_264 : decode prog_9_method_48_code 264 = .ok (.lload_n 2, 1) := by decide +kernel
theorem d_M_write_265 : decode prog_9_method_48_code 265 = .ok (.iload 4, 2) := by decide +kernel
theorem d_M_write_267 : decode prog_9_method_48_code 267 = .ok (.invokevirtual 194, 3) := by decide +kernel
theorem d_M_write_270 : decode prog_9_method_48_code 270 = .ok (.iload 6, 2) := by decide +kernel
theorem d_M_write_272 : decode prog_9_method_48_code 272 = .ok (.iload 9, 2) := by decide +kernel
theorem d_M_write_274 : decode prog_9_method_48_code 274 = .ok (.iadd, 1) := by decide +kernel
theorem d_M_write_275 : decode prog_9_method_48_code 275 = .ok (.aload_n 0, 1) := by decide +kernel
theorem d_M_write_276 : decode prog_9_method_48_code 276 = .ok (.iload 5, 2) := by decide +kernel
theorem d_M_write_278 : decode prog_9_method_48_code 278 = .ok (.bipush 10, 2) := by decide +kernel
theorem d_M_write_280 : decode prog_9_method_48_code 280 = .ok (.iadd, 1) := by decide +kernel
theorem d_M_write_281 : decode prog_9_method_48_code 281 = .ok (.invokevirtual 60, 3) := by decide +kernel
theorem d_M_write_284 : decode prog_9_method_48_code 284 = .ok (.if_icmp .le 17, 3) := by decide +kernel
theorem d_M_write_287 : decode prog_9_method_48_code 287 = .ok (.aload_n 0, 1) := by decide +kernel
theorem d_M_write_288 : decode prog_9_method_48_code 288 = .ok (.iload 5, 2) := by decide +kernel
theorem d_M_write_290 : decode prog_9_method_48_code 290 = .ok (.bipush 10, 2) := by decide +kernel
theorem d_M_write_292 : decode prog_9_method_48_code 292 = .ok (.iadd, 1) := by decide +kernel
theorem d_M_write_293 : decode prog_9_method_48_code 293 = .ok (.iload 6, 2) := by decide +kernel
theorem d_M_write_295 : decode prog_9_method_48_code 295 = .ok (.iload 9, 2) := by decide +kernel
theorem d_M_write_297 : decode prog_9_method_48_code 297 = .ok (.iadd, 1) := by decide +kernel
theorem d_M_write_298 : decode prog_9_method_48_code 298 = .ok (.invokevirtual 191, 3) := by decide +kernel
theorem d_M_write_301 : decode prog_9_method_48_code 301 = .ok (.aload_n 0, 1) := by decide +kernel
theorem d_M_write_302 : decode prog_9_method_48_code 302 = .ok (.aload_n 0, 1) := by decide +kernel
theorem d_M_write_303 : decode prog_9_method_48_code 303 = .ok (.getfield 64, 3) := by decide +kernel
theorem d_M_write_306 : decode prog_9_method_48_code 306 = .ok (.ifCond .eq 7, 3) := by decide +kernel
theorem d_M_write_309 : decode prog_9_method_48_code 309 = .ok (.iconst 1, 1) := by decide +kernel
theorem d_M_write_310 : decode prog_9_method_48_code 310 = .ok (.goto 4, 3) := by decide +kernel
theorem d_M_write_313 : decode prog_9_method_48_code 313 = .ok (.iconst 0, 1) := by decide +kernel
theorem d_M_write_314 : decode prog_9_method_48_code 314 = .ok (.putfield 57, 3) := by decide +kernel
theorem d_M_write_317 : decode prog_9_method_48_code 317 = .ok (.aload_n 0, 1) := by decide +kernel
theorem d_M_write_318 : decode prog_9_method_48_code 318 = .ok (.getfield 64, 3) := by decide +kernel
theorem d_M_write_321 : decode prog_9_method_48_code 321 = .ok (.ifCond .eq 5, 3) := by decide +kernel
theorem d_M_write_324 : decode prog_9_method_48_code 324 = .ok (.iconst 0, 1) := by decide +kernel
theorem d_M_write_325 : decode prog_9_method_48_code 325 = .ok (.ireturn, 1) := by decide +kernel
theorem d_M_write_326 : decode prog_9_method_48_code 326 = .ok (.aload_n 0, 1) := by decide +kernel
theorem d_M_write_327 : decode prog_9_method_48_code 327 = .ok (.getfield 33, 3) := by decide +kernel
theorem d_M_write_330 : decode prog_9_method_48_code 330 = .ok (.iload_n 1, 1) := by decide +kernel
theorem d_M_write_331 : decode prog_9_method_48_code 331 = .ok (.iload 6, 2) := by decide +kernel
theorem d_M_write_333 : decode prog_9_method_48_code 333 = .ok (.iload 9, 2) := by decide +kernel
theorem d_M_write_335 : decode prog_9_method_48_code 335 = .ok (.iadd, 1) := by decide +kernel
theorem d_M_write_336 : decode prog_9_method_48_code 336 = .ok (.iastore, 1) := by decide +kernel
theorem d_M_write_337 : decode prog_9_method_48_code 337 = .ok (.iload 9, 2) := by decide +kernel
theorem d_M_write_339 : decode prog_9_method_48_code 339 = .ok (.ireturn, 1) := by decide +kernel
theorem d_M_list_0 : decode prog_9_method_50_code 0 = .ok (.aload_n 0, 1) := by decide +kernel
theorem d_M_list_1 : decode prog_9_method_50_code 1 = .ok (.invokevirtual 158, 3) := by decide +kernel
theorem d_M_list_4 : decode prog_9_method_50_code 4 = .ok (.ifCond .ne 5, 3) := by decide +kernel
theorem d_M_list_7 : decode prog_9_method_50_code 7 = .ok (.iconst 0, 1) := by decide +kernel
theorem d_M_list_8 : decode prog_9_method_50_code 8 = .ok (.ireturn, 1) := by decide +kernel
theorem d_M_list_9 : decode prog_9_method_50_code 9 = .ok (.iconst (-1), 1) := by decide +kernel
theorem d_M_list_10 : decode prog_9_method_50_code 10 = .ok (.istore_n 3, 1) := by decide +kernel
theorem d_M_list_11 : decode prog_9_method_50_code 11 = .ok (.iconst 0, 1) := by decide +kernel
theorem d_M_list_12 : decode prog_9_method_50_code 12 = .ok (.istore 4, 2) := by decide +kernel
theorem d_M_list_14 : decode prog_9_method_50_code 14 = .ok (.iconst 0, 1) := by decide +kernel
theorem d_M_list_15 : decode prog_9_method_50_code 15 = .ok (.istore 5, 2) := by decide +kernel
theorem d_M_list_17 : decode prog_9_method_50_code 17 = .ok (.iload 5, 2) := by decide +kernel
theorem d_M_list_19 : decode prog_9_method_50_code 19 = .ok (.iconst 2, 1) := by decide +kernel
theorem d_M_list_20 : decode prog_9_method_50_code 20 = .ok (.aload_n 0, 1) := by decide +kernel
theorem d_M_list_21 : decode prog_9_method_50_code 21 = .ok (.aload_n 0, 1) := by decide +kernel
theorem d_M_list_22 : decode prog_9_method_50_code 22 = .ok (.getfield 24, 3) := by decide +kernel
theorem d_M_list_25 : decode prog_9_method_50_code 25 = .ok (.invokevirtual 126, 3) := by decide +kernel
theorem d_M_list_28 : decode prog_9_method_50_code 28 = .ok (.imul, 1) := by decide +kernel
theorem d_M_list_29 : decode prog_9_method_50_code 29 = .ok (.if_icmp .ge 42, 3) := by decide +kernel
theorem d_M_list_32 : decode prog_9_method_50_code 32 = .ok (.aload_n 0, 1) := by decide +kernel
theorem d_M_list_33 : decode prog_9_method_50_code 33 = .ok (.aload_n 0, 1) := by decide +kernel
theorem d_M_list_34 : decode prog_9_method_50_code 34 = .ok (.aload_n 0, 1) := by decide +kernel
theorem d_M_list_35 : decode prog_9_method_50_code 35 = .ok (.getfield 24, 3) := by decide +kernel
theorem d_M_list_38 : decode prog_9_method_50_code 38 = .ok (.iload 5, 2) := by decide +kernel
theorem d_M_list_40 : decode prog_9_method_50_code 40 = .ok (.invokevirtual 98, 3) := by decide +kernel
theorem d_M_list_43 : decode prog_9_method_50_code 43 = .ok (.invokevirtual 101, 3) := by decide +kernel
theorem d_M_list_46 : decode prog_9_method_50_code 46 = .ok (.ifCond .eq 19, 3) := by decide +kernel
theorem d_M_list_49 : decode prog_9_method_50_code 49 = .ok (.iload 4, 2) := by decide +kernel
theorem d_M_list_51 : decode prog_9_method_50_code 51 = .ok (.iload_n 1, 1) := by decide +kernel
theorem d_M_list_52 : decode prog_9_method_50_code 52 = .ok (.if_icmp .ne 8, 3) := by decide +kernel
theorem d_M_list_55 : decode prog_9_method_50_code 55 = .ok (.iload 5, 2) := by decide +kernel
theorem d_M_list_57 : decode prog_9_method_50_code 57 = .ok (.goto 4, 3) := by decide +kernel
theorem d_M_list_60 : decode prog_9_method_50_code 60 = .ok (.iload_n 3, 1) := by decide +kernel
theorem d_M_list_61 : decode prog_9_method_50_code 61 = .ok (.istore_n 3, 1) := by decide +kernel
theorem d_M_list_62 : decode prog_9_method_50_code 62 = .ok (.iinc 4 1, 3) := by decide +kernel
theorem d_M_list_65 : decode prog_9_method_50_code 65 = .ok (.iinc 5 1, 3) := by decide +kernel
theorem d_M_list_68 : decode prog_9_method_50_code 68 = .ok (.goto (-51), 3) := by decide +kernel
theorem d_M_list_71 : decode prog_9_method_50_code 71 = .ok (.aload_n 0, 1) := by decide +kernel
theorem d_M_list_72 : decode prog_9_method_50_code 72 = .ok (.iload_n 3, 1) := by decide +kernel
theorem d_M_list_73 : decode prog_9_method_50_code 73 = .ok (.ifCond .ge 7, 3) := by decide +kernel
theorem d_M_list_76 : decode prog_9_method_50_code 76 = .ok (.iconst 2, 1) := by decide +kernel
theorem d_M_list_77 : decode prog_9_method_50_code 77 = .ok (.goto 39, 3) := by decide +kernel
theorem d_M_list_80 : decode prog_9_method_50_code 80 = .ok (.iload_n 2, 1) := by decide +kernel
theorem d_M_list_81 : decode prog_9_method_50_code 81 = .ok (.iconst 0, 1) := by decide +kernel
theorem d_M_list_82 : decode prog_9_method_50_code 82 = .ok (.iconst 3, 1) := by decide +kernel
theorem d_M_list_83 : decode prog_9_method_50_code 83 = .ok (.invokestatic 86, 3) := by decide +kernel
theorem d_M_list_86 : decode prog_9_method_50_code 86 = .ok (.ifCond .ne 29, 3) := by decide +kernel
theorem d_M_list_89 : decode prog_9_method_50_code 89 = .ok (.iload_n 2, 1) := by decide +kernel
theorem d_M_list_90 : decode prog_9_method_50_code 90 = .ok (.bipush 10, 2) := by decide +kernel
theorem d_M_list_92 : decode prog_9_method_50_code 92 = .ok (.bipush 15, 2) := by decide +kernel
theorem d_M_list_94 : decode prog_9_method_50_code 94 = .ok (.invokestatic 86, 3) := by decide +kernel
theorem d_M_list_97 : decode prog_9_method_50_code 97 = .ok (.ifCond .ne 18, 3) := by decide +kernel
theorem d_M_list_100 : decode prog_9_method_50_code 100 = .ok (.iload_n 2, 1) := by decide +kernel
theorem d_M_list_101 : decode prog_9_method_50_code 101 = .ok (.bipush 20, 2) := by decide +kernel
theorem d_M_list_103 : decode prog_9_method_50_code 103 = .ok (.bipush 45, 2) := by decide +kernel
theorem d_M_list_105 : decode prog_9_method_50_code 105 = .ok (.invokestatic 86, 3) := by decide +kernel
theorem d_M_list_108 : decode prog_9_method_50_code 108 = .ok (.ifCond .ne 7, 3) := by decide +kernel
theorem d_M_list_111 : decode prog_9_method_50_code 111 = .ok (.iconst 3, 1) := by decide +kernel
theorem d_M_list_112 : decode prog_9_method_50_code 112 = .ok (.goto 4, 3) := by decide +kernel
theorem d_M_list_115 : decode prog_9_method_50_code 115 = .ok (.iconst 0, 1) := by decide +kernel
theorem d_M_list_116 : decode prog_9_method_50_code 116 = .ok (.putfield 57, 3) := by decide +kernel
theorem d_M_list_119 : decode prog_9_method_50_code 119 = .ok (.aload_n 0, 1) := by decide +kernel
theorem d_M_list_120 : decode prog_9_method_50_code 120 = .ok (.getfield 57, 3) := by decide +kernel
theorem d_M_list_123 : decode prog_9_method_50_code 123 = .ok (.ifCond .le 5, 3) := by decide +kernel
theorem d_M_list_126 : decode prog_9_method_50_code 126 = .ok (.iconst 0, 1) := by decide +kernel
theorem d_M_list_127 : decode prog_9_method_50_code 127 = .ok (.ireturn, 1) := by decide +kernel
theorem d_M_list_128 : decode prog_9_method_50_code 128 = .ok (.aload_n 0, 1) := by decide +kernel
theorem d_M_list_129 : decode prog_9_method_50_code 129 = .ok (.aload_n 0, 1) := by decide +kernel
theorem d_M_list_130 : decode prog_9_method_50_code 130 = .ok (.getfield 24, 3) := by decide +kernel
theorem d_M_list_133 : decode prog_9_method_50_code 133 = .ok (.iload_n 3, 1) := by decide +kernel
theorem d_M_list_134 : decode prog_9_method_50_code 134 = .ok (.invokevirtual 98, 3) := by decide +kernel
theorem d_M_list_137 : decode prog_9_method_50_code 137 = .ok (.istore 5, 2) := by decide +kernel
theorem d_M_list_139 : decode prog_9_method_50_code 139 = .ok (.iload_n 2, 1) := by decide +kernel
theorem d_M_list_140 : decode prog_9_method_50_code 140 = .ok (.iconst 3, 1) := by decide +kernel
theorem d_M_list_141 : decode prog_9_method_50_code 141 = .ok (.if_icmp .ge 43, 3) := by decide +kernel
theorem d_M_list_144 : decode prog_9_method_50_code 144 = .ok (.iload_n 2, 1) := by decide +kernel
theorem d_M_list_145 : decode prog_9_method_50_code 145 = .ok (.ifCond .ne 16, 3) := by decide +kernel
theorem d_M_list_148 : decode prog_9_method_50_code 148 = .ok (.aload_n 0, 1) := by decide +kernel
theorem d_M_list_149 : decode prog_9_method_50_code 149 = .ok (.getfield 7, 3) := by decide +kernel
theorem d_M_list_152 : decode prog_9_method_50_code 152 = .ok (.iload 5, 2) := by decide +kernel
theorem d_M_list_154 : decode prog_9_method_50_code 154 = .ok (.bipush 6, 2) := by decide +kernel
theorem d_M_list_156 : decode prog_9_method_50_code 156 = .ok (.iadd, 1) := by decide +kernel
theorem d_M_list_157 : decode prog_9_method_50_code 157 = .ok (.iaload, 1) := by decide +kernel
theorem d_M_list_158 : decode prog_9_method_50_code 158 = .ok (.goto 25, 3) := by decide +kernel
theorem d_M_list_161 : decode prog_9_method_50_code 161 = .ok (.aload_n 0, 1) := by decide +kernel
theorem d_M_list_162 : decode prog_9_method_50_code 162 = .ok (.iload_n 2, 1) := by decide +kernel
