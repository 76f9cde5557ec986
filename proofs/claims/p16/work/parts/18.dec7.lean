theorem d_M_list_163 : decode prog_9_method_50_code 163 = .ok (.iconst 1, 1) := by decide +kernel
theorem d_M_list_164 : decode prog_9_method_50_code 164 = .ok (.if_icmp .ne 11, 3) := by decide +kernel
theorem d_M_list_167 : decode prog_9_method_50_code 167 = .ok (.iload 5, 2) := by decide +kernel
theorem d_M_list_169 : decode prog_9_method_50_code 169 = .ok (.bipush 10, 2) := by decide +kernel
theorem d_M_list_171 : decode prog_9_method_50_code 171 = .ok (.iadd, 1) := by decide +kernel
theorem d_M_list_172 : decode prog_9_method_50_code 172 = .ok (.goto 8, 3) := by decide +kernel
theorem d_M_list_175 : decode prog_9_method_50_code 175 = .ok (.iload 5, 2) := by decide +kernel
theorem d_M_list_177 : decode prog_9_method_50_code 177 = .ok (.bipush 8, 2) := by decide +kernel
theorem d_M_list_179 : decode prog_9_method_50_code 179 = .ok (.iadd, 1) := by decide +kernel
theorem d_M_list_180 : decode prog_9_method_50_code 180 = .ok (.invokevirtual 60, 3) := by decide +kernel
theorem d_M_list_183 : decode prog_9_method_50_code 183 = .ok (.ireturn, 1) := by decide +kernel
theorem d_M_list_184 : decode prog_9_method_50_code 184 = .ok (.iload_n 2, 1) := by decide +kernel
theorem d_M_list_185 : decode prog_9_method_50_code 185 = .ok (.iconst 3, 1) := by decide +kernel
theorem d_M_list_186 : decode prog_9_method_50_code 186 = .ok (.if_icmp .ne 36, 3) := by decide +kernel
theorem d_M_list_189 : decode prog_9_method_50_code 189 = .ok (.iconst 0, 1) := by decide +kernel
theorem d_M_list_190 : decode prog_9_method_50_code 190 = .ok (.istore 6, 2) := by decide +kernel
theorem d_M_list_192 : decode prog_9_method_50_code 192 = .ok (.iload 6, 2) := by decide +kernel
theorem d_M_list_194 : decode prog_9_method_50_code 194 = .ok (.bipush 26, 2) := by decide +kernel
theorem d_M_list_196 : decode prog_9_method_50_code 196 = .ok (.if_icmp .ge 23, 3) := by decide +kernel
theorem d_M_list_199 : decode prog_9_method_50_code 199 = .ok (.aload_n 0, 1) := by decide +kernel
theorem d_M_list_200 : decode prog_9_method_50_code 200 = .ok (.aload_n 0, 1) := by decide +kernel
theorem d_M_list_201 : decode prog_9_method_50_code 201 = .ok (.getfield 24, 3) := by decide +kernel
theorem d_M_list_204 : decode prog_9_method_50_code 204 = .ok (.iload_n 3, 1) := by decide +kernel
theorem d_M_list_205 : decode prog_9_method_50_code 205 = .ok (.iload 6, 2) := by decide +kernel
theorem d_M_list_207 : decode prog_9_method_50_code 207 = .ok (.invokevirtual 122, 3) := by decide +kernel
theorem d_M_list_210 : decode prog_9_method_50_code 210 = .ok (.ifCond .eq 9, 3) := by decide +kernel
theorem d_M_list_213 : decode prog_9_method_50_code 213 = .ok (.iinc 6 1, 3) := by decide +kernel
theorem d_M_list_216 : decode prog_9_method_50_code 216 = .ok (.goto (-24), 3) := by decide +kernel
theorem d_M_list_219 : decode prog_9_method_50_code 219 = .ok (.iload 6, 2) := by decide +kernel
theorem d_M_list_221 : decode prog_9_method_50_code 221 = .ok (.ireturn, 1) := by decide +kernel
theorem d_M_list_222 : decode prog_9_method_50_code 222 = .ok (.iload_n 2, 1) := by decide +kernel
theorem d_M_list_223 : decode prog_9_method_50_code 223 = .ok (.bipush 20, 2) := by decide +kernel
theorem d_M_list_225 : decode prog_9_method_50_code 225 = .ok (.if_icmp .ge 16, 3) := by decide +kernel
theorem d_M_list_228 : decode prog_9_method_50_code 228 = .ok (.aload_n 0, 1) := by decide +kernel
theorem d_M_list_229 : decode prog_9_method_50_code 229 = .ok (.iload 5, 2) := by decide +kernel
theorem d_M_list_231 : decode prog_9_method_50_code 231 = .ok (.iload_n 2, 1) := by decide +kernel
theorem d_M_list_232 : decode prog_9_method_50_code 232 = .ok (.bipush 10, 2) := by decide +kernel
theorem d_M_list_234 : decode prog_9_method_50_code 234 = .ok (.isub, 1) := by decide +kernel
theorem d_M_list_235 : decode prog_9_method_50_code 235 = .ok (.invokevirtual 119, 3) := by decide +kernel
theorem d_M_list_238 : decode prog_9_method_50_code 238 = .ok (.goto 16, 3) := by decide +kernel
theorem d_M_list_241 : decode prog_9_method_50_code 241 = .ok (.aload_n 0, 1) := by decide +kernel
theorem d_M_list_242 : decode prog_9_method_50_code 242 = .ok (.aload_n 0, 1) := by decide +kernel
theorem d_M_list_243 : decode prog_9_method_50_code 243 = .ok (.getfield 24, 3) := by decide +kernel
theorem d_M_list_246 : decode prog_9_method_50_code 246 = .ok (.iload_n 3, 1) := by decide +kernel
theorem d_M_list_247 : decode prog_9_method_50_code 247 = .ok (.iload_n 2, 1) := by decide +kernel
theorem d_M_list_248 : decode prog_9_method_50_code 248 = .ok (.bipush 20, 2) := by decide +kernel
theorem d_M_list_250 : decode prog_9_method_50_code 250 = .ok (.isub, 1) := by decide +kernel
theorem d_M_list_251 : decode prog_9_method_50_code 251 = .ok (.invokevirtual 122, 3) := by decide +kernel
theorem d_M_list_254 : decode prog_9_method_50_code 254 = .ok (.istore 6, 2) := by decide +kernel
theorem d_M_list_256 : decode prog_9_method_50_code 256 = .ok (.iload 6, 2) := by decide +kernel
theorem d_M_list_258 : decode prog_9_method_50_code 258 = .ok (.ifCond .ne 7, 3) := by decide +kernel
theorem d_M_list_261 : decode prog_9_method_50_code 261 = .ok (.iconst (-1), 1) := by decide +kernel
theorem d_M_list_262 : decode prog_9_method_50_code 262 = .ok (.goto 5, 3) := by decide +kernel
theorem d_M_list_265 : decode prog_9_method_50_code 265 = .ok (.iload 6, 2) := by decide +kernel
theorem d_M_list_267 : decode prog_9_method_50_code 267 = .ok (.ireturn, 1) := by decide +kernel
theorem d_M_cut_0 : decode prog_9_method_51_code 0 = .ok (.aload_n 0, 1) := by decide +kernel
theorem d_M_cut_1 : decode prog_9_method_51_code 1 = .ok (.iconst 0, 1) := by decide +kernel
theorem d_M_cut_2 : decode prog_9_method_51_code 2 = .ok (.putfield 57, 3) := by decide +kernel
theorem d_M_cut_5 : decode prog_9_method_51_code 5 = .ok (.iload_n 1, 1) := by decide +kernel
theorem d_M_cut_6 : decode prog_9_method_51_code 6 = .ok (.ifCond .lt 10, 3) := by decide +kernel
theorem d_M_cut_9 : decode prog_9_method_51_code 9 = .ok (.aload_n 0, 1) := by decide +kernel
theorem d_M_cut_10 : decode prog_9_method_51_code 10 = .ok (.getfield 13, 3) := by decide +kernel
theorem d_M_cut_13 : decode prog_9_method_51_code 13 = .ok (.ifCond .ne 5, 3) := by decide +kernel
theorem d_M_cut_16 : decode prog_9_method_51_code 16 = .ok (.iconst 0, 1) := by decide +kernel
theorem d_M_cut_17 : decode prog_9_method_51_code 17 = .ok (.ireturn, 1) := by decide +kernel
theorem d_M_cut_18 : decode prog_9_method_51_code 18 = .ok (.aload_n 0, 1) := by decide +kernel
theorem d_M_cut_19 : decode prog_9_method_51_code 19 = .ok (.iload_n 1, 1) := by decide +kernel
theorem d_M_cut_20 : decode prog_9_method_51_code 20 = .ok (.putfield 17, 3) := by decide +kernel
theorem d_M_cut_23 : decode prog_9_method_51_code 23 = .ok (.iconst 1, 1) := by decide +kernel
theorem d_M_cut_24 : decode prog_9_method_51_code 24 = .ok (.ireturn, 1) := by decide +kernel
theorem d_M_power_0 : decode prog_9_method_52_code 0 = .ok (.aload_n 0, 1) := by decide +kernel
theorem d_M_power_1 : decode prog_9_method_52_code 1 = .ok (.iconst 0, 1) := by decide +kernel
theorem d_M_power_2 : decode prog_9_method_52_code 2 = .ok (.putfield 57, 3) := by decide +kernel
theorem d_M_power_5 : decode prog_9_method_52_code 5 = .ok (.aload_n 0, 1) := by decide +kernel
theorem d_M_power_6 : decode prog_9_method_52_code 6 = .ok (.getfield 13, 3) := by decide +kernel
theorem d_M_power_9 : decode prog_9_method_52_code 9 = .ok (.ifCond .eq 5, 3) := by decide +kernel
theorem d_M_power_12 : decode prog_9_method_52_code 12 = .ok (.iconst 0, 1) := by decide +kernel
theorem d_M_power_13 : decode prog_9_method_52_code 13 = .ok (.ireturn, 1) := by decide +kernel
theorem d_M_power_14 : decode prog_9_method_52_code 14 = .ok (.aload_n 0, 1) := by decide +kernel
theorem d_M_power_15 : decode prog_9_method_52_code 15 = .ok (.iconst 1, 1) := by decide +kernel
theorem d_M_power_16 : decode prog_9_method_52_code 16 = .ok (.putfield 13, 3) := by decide +kernel
theorem d_M_power_19 : decode prog_9_method_52_code 19 = .ok (.iconst 1, 1) := by decide +kernel
theorem d_M_power_20 : decode prog_9_method_52_code 20 = .ok (.ireturn, 1) := by decide +kernel
theorem d_M_fix_0 : decode prog_9_method_53_code 0 = .ok (.aload_n 0, 1) := by decide +kernel
theorem d_M_fix_1 : decode prog_9_method_53_code 1 = .ok (.iload_n 1, 1) := by decide +kernel
theorem d_M_fix_2 : decode prog_9_method_53_code 2 = .ok (.iload_n 2, 1) := by decide +kernel
theorem d_M_fix_3 : decode prog_9_method_53_code 3 = .ok (.invokevirtual 83, 3) := by decide +kernel
theorem d_M_fix_6 : decode prog_9_method_53_code 6 = .ok (.aload_n 0, 1) := by decide +kernel
theorem d_M_fix_7 : decode prog_9_method_53_code 7 = .ok (.dup, 1) := by decide +kernel
theorem d_M_fix_8 : decode prog_9_method_53_code 8 = .ok (.getfield 200, 3) := by decide +kernel
theorem d_M_fix_11 : decode prog_9_method_53_code 11 = .ok (.iconst 1, 1) := by decide +kernel
theorem d_M_fix_12 : decode prog_9_method_53_code 12 = .ok (.iadd, 1) := by decide +kernel
theorem d_M_fix_13 : decode prog_9_method_53_code 13 = .ok (.putfield 200, 3) := by decide +kernel
theorem d_M_fix_16 : decode prog_9_method_53_code 16 = .ok (.return_, 1) := by decide +kernel
theorem d_M_mendTables_0 : decode prog_9_method_54_code 0 = .ok (.iconst 0, 1) := by decide +kernel
theorem d_M_mendTables_1 : decode prog_9_method_54_code 1 = .ok (.istore_n 1, 1) := by decide +kernel
theorem d_M_mendTables_2 : decode prog_9_method_54_code 2 = .ok (.iload_n 1, 1) := by decide +kernel
theorem d_M_mendTables_3 : decode prog_9_method_54_code 3 = .ok (.bipush 64, 2) := by decide +kernel
theorem d_M_mendTables_5 : decode prog_9_method_54_code 5 = .ok (.if_icmp .ge 54, 3) := by decide +kernel
theorem d_M_mendTables_8 : decode prog_9_method_54_code 8 = .ok (.aload_n 0, 1) := by decide +kernel
theorem d_M_mendTables_9 : decode prog_9_method_54_code 9 = .ok (.sipush 128, 3) := by decide +kernel
theorem d_M_mendTables_12 : decode prog_9_method_54_code 12 = .ok (.iconst 2, 1) := by decide +kernel
theorem d_M_mendTables_13 : decode prog_9_method_54_code 13 = .ok (.iload_n 1, 1) := by decide +kernel
theorem d_M_mendTables_14 : decode prog_9_method_54_code 14 = .ok (.imul, 1) := by decide +kernel
theorem d_M_mendTables_15 : decode prog_9_method_54_code 15 = .ok (.iadd, 1) := by decide +kernel
theorem d_M_mendTables_16 : decode prog_9_method_54_code 16 = .ok (.invokevirtual 60, 3) := by decide +kernel
theorem d_M_mendTables_19 : decode prog_9_method_54_code 19 = .ok (.aload_n 0, 1) := by decide +kernel
theorem d_M_mendTables_20 : decode prog_9_method_54_code 20 = .ok (.iload_n 1, 1) := by decide +kernel
theorem d_M_mendTables_21 : decode prog_9_method_54_code 21 = .ok (.invokevirtual 80, 3) := by decide +kernel
theorem d_M_mendTables_24 : decode prog_9_method_54_code 24 = .ok (.if_icmp .eq 29, 3) := by decide +kernel
theorem d_M_mendTables_27 : decode prog_9_method_54_code 27 = .ok (.aload_n 0, 1) := by decide +kernel
theorem d_M_mendTables_28 : decode prog_9_method_54_code 28 = .ok (.sipush 128, 3) := by decide +kernel
theorem d_M_mendTables_31 : decode prog_9_method_54_code 31 = .ok (.iconst 2, 1) := by decide +kernel
theorem d_M_mendTables_32 : decode prog_9_method_54_code 32 = .ok (.iload_n 1, 1) := by decide +kernel
theorem d_M_mendTables_33 : decode prog_9_method_54_code 33 = .ok (.imul, 1) := by decide +kernel
theorem d_M_mendTables_34 : decode prog_9_method_54_code 34 = .ok (.iadd, 1) := by decide +kernel
theorem d_M_mendTables_35 : decode prog_9_method_54_code 35 = .ok (.aload_n 0, 1) := by decide +kernel
theorem d_M_mendTables_36 : decode prog_9_method_54_code 36 = .ok (.iload_n 1, 1) := by decide +kernel
theorem d_M_mendTables_37 : decode prog_9_method_54_code 37 = .ok (.invokevirtual 80, 3) := by decide +kernel
theorem d_M_mendTables_40 : decode prog_9_method_54_code 40 = .ok (.invokevirtual 191, 3) := by decide +kernel
theorem d_M_mendTables_43 : decode prog_9_method_54_code 43 = .ok (.aload_n 0, 1) := by decide +kernel
theorem d_M_mendTables_44 : decode prog_9_method_54_code 44 = .ok (.dup, 1) := by decide +kernel
theorem d_M_mendTables_45 : decode prog_9_method_54_code 45 = .ok (.getfield 200, 3) := by decide +kernel
theorem d_M_mendTables_48 : decode prog_9_method_54_code 48 = .ok (.iconst 1, 1) := by decide +kernel
theorem d_M_mendTables_49 : decode prog_9_method_54_code 49 = .ok (.iadd, 1) := by decide +kernel
theorem d_M_mendTables_50 : decode prog_9_method_54_code 50 = .ok (.putfield 200, 3) := by decide +kernel
theorem d_M_mendTables_53 : decode prog_9_method_54_code 53 = .ok (.iinc 1 1, 3) := by decide +kernel
theorem d_M_mendTables_56 : decode prog_9_method_54_code 56 = .ok (.goto (-54), 3) := by decide +kernel
theorem d_M_mendTables_59 : decode prog_9_method_54_code 59 = .ok (.iconst 0, 1) := by decide +kernel
theorem d_M_mendTables_60 : decode prog_9_method_54_code 60 = .ok (.istore_n 1, 1) := by decide +kernel
theorem d_M_mendTables_61 : decode prog_9_method_54_code 61 = .ok (.iload_n 1, 1) := by decide +kernel
theorem d_M_mendTables_62 : decode prog_9_method_54_code 62 = .ok (.bipush 64, 2) := by decide +kernel
theorem d_M_mendTables_64 : decode prog_9_method_54_code 64 = .ok (.if_icmp .ge 59, 3) := by decide +kernel
theorem d_M_mendTables_67 : decode prog_9_method_54_code 67 = .ok (.aload_n 0, 1) := by decide +kernel
theorem d_M_mendTables_68 : decode prog_9_method_54_code 68 = .ok (.getfield 64, 3) := by decide +kernel
theorem d_M_mendTables_71 : decode prog_9_method_54_code 71 = .ok (.ifCond .ne 52, 3) := by decide +kernel
theorem d_M_mendTables_74 : decode prog_9_method_54_code 74 = .ok (.aload_n 0, 1) := by decide +kernel
theorem d_M_mendTables_75 : decode prog_9_method_54_code 75 = .ok (.iload_n 1, 1) := by decide +kernel
theorem d_M_mendTables_76 : decode prog_9_method_54_code 76 = .ok (.invokevirtual 80, 3) := by decide +kernel
theorem d_M_mendTables_79 : decode prog_9_method_54_code 79 = .ok (.istore_n 2, 1) := by decide +kernel
theorem d_M_mendTables_80 : decode prog_9_method_54_code 80 = .ok (.iload_n 1, 1) := by decide +kernel
theorem d_M_mendTables_81 : decode prog_9_method_54_code 81 = .ok (.iconst 2, 1) := by decide +kernel
theorem d_M_mendTables_82 : decode prog_9_method_54_code 82 = .ok (.if_icmp .ge 12, 3) := by decide +kernel
theorem d_M_mendTables_85 : decode prog_9_method_54_code 85 = .ok (.iload_n 2, 1) := by decide +kernel
theorem d_M_mendTables_86 : decode prog_9_method_54_code 86 = .ok (.ldc 52, 2) := by decide +kernel
theorem d_M_mendTables_88 : decode prog_9_method_54_code 88 = .ok (.if_icmp .eq 29, 3) := by decide +kernel
theorem d_M_mendTables_91 : decode prog_9_method_54_code 91 = .ok (.goto 19, 3) := by decide +kernel
theorem d_M_mendTables_94 : decode prog_9_method_54_code 94 = .ok (.iload_n 2, 1) := by decide +kernel
theorem d_M_mendTables_95 : decode prog_9_method_54_code 95 = .ok (.iconst 1, 1) := by decide +kernel
theorem d_M_mendTables_96 : decode prog_9_method_54_code 96 = .ok (.if_icmp .eq 14, 3) := by decide +kernel
theorem d_M_mendTables_99 : decode prog_9_method_54_code 99 = .ok (.iload_n 2, 1) := by decide +kernel
theorem d_M_mendTables_100 : decode prog_9_method_54_code 100 = .ok (.bipush 64, 2) := by decide +kernel
theorem d_M_mendTables_102 : decode prog_9_method_54_code 102 = .ok (.ldc 203, 2) := by decide +kernel
theorem d_M_mendTables_104 : decode prog_9_method_54_code 104 = .ok (.invokestatic 86, 3) := by decide +kernel
theorem d_M_mendTables_107 : decode prog_9_method_54_code 107 = .ok (.ifCond .eq 10, 3) := by decide +kernel
theorem d_M_mendTables_110 : decode prog_9_method_54_code 110 = .ok (.aload_n 0, 1) := by decide +kernel
theorem d_M_mendTables_111 : decode prog_9_method_54_code 111 = .ok (.iload_n 1, 1) := by decide +kernel
theorem d_M_mendTables_112 : decode prog_9_method_54_code 112 = .ok (.ldc 52, 2) := by decide +kernel
theorem d_M_mendTables_114 : decode prog_9_method_54_code 114 = .ok (.invokevirtual 204, 3) := by decide +kernel
theorem d_M_mendTables_117 : decode prog_9_method_54_code 117 = .ok (.iinc 1 1, 3) := by decide +kernel
theorem d_M_mendTables_120 : decode prog_9_method_54_code 120 = .ok (.goto (-59), 3) := by decide +kernel
theorem d_M_mendTables_123 : decode prog_9_method_54_code 123 = .ok (.return_, 1) := by decide +kernel
theorem d_M_follow_0 : decode prog_9_method_55_code 0 = .ok (.iconst 0, 1) := by decide +kernel
theorem d_M_follow_1 : decode prog_9_method_55_code 1 = .ok (.istore_n 2, 1) := by decide +kernel
theorem d_M_follow_2 : decode prog_9_method_55_code 2 = .ok (.iload_n 1, 1) := by decide +kernel
theorem d_M_follow_3 : decode prog_9_method_55_code 3 = .ok (.istore_n 3, 1) := by decide +kernel
theorem d_M_follow_4 : decode prog_9_method_55_code 4 = .ok (.iload_n 3, 1) := by decide +kernel
theorem d_M_follow_5 : decode prog_9_method_55_code 5 = .ok (.ifCond .le 101, 3) := by decide +kernel
theorem d_M_follow_8 : decode prog_9_method_55_code 8 = .ok (.aload_n 0, 1) := by decide +kernel
theorem d_M_follow_9 : decode prog_9_method_55_code 9 = .ok (.getfield 64, 3) := by decide +kernel
theorem d_M_follow_12 : decode prog_9_method_55_code 12 = .ok (.ifCond .ne 94, 3) := by decide +kernel
theorem d_M_follow_15 : decode prog_9_method_55_code 15 = .ok (.aload_n 0, 1) := by decide +kernel
theorem d_M_follow_16 : decode prog_9_method_55_code 16 = .ok (.getfield 43, 3) := by decide +kernel
theorem d_M_follow_19 : decode prog_9_method_55_code 19 = .ok (.iload_n 2, 1) := by decide +kernel
theorem d_M_follow_20 : decode prog_9_method_55_code 20 = .ok (.iload_n 3, 1) := by decide +kernel
theorem d_M_follow_21 : decode prog_9_method_55_code 21 = .ok (.iastore, 1) := by decide +kernel
theorem d_M_follow_22 : decode prog_9_method_55_code 22 = .ok (.iinc 2 1, 3) := by decide +kernel
theorem d_M_follow_25 : decode prog_9_method_55_code 25 = .ok (.aload_n 0, 1) := by decide +kernel
theorem d_M_follow_26 : decode prog_9_method_55_code 26 = .ok (.getfield 39, 3) := by decide +kernel
theorem d_M_follow_29 : decode prog_9_method_55_code 29 = .ok (.iload_n 3, 1) := by decide +kernel
theorem d_M_follow_30 : decode prog_9_method_55_code 30 = .ok (.iconst 1, 1) := by decide +kernel
theorem d_M_follow_31 : decode prog_9_method_55_code 31 = .ok (.bastore, 1) := by decide +kernel
theorem d_M_follow_32 : decode prog_9_method_55_code 32 = .ok (.aload_n 0, 1) := by decide +kernel
theorem d_M_follow_33 : decode prog_9_method_55_code 33 = .ok (.iload_n 3, 1) := by decide +kernel
theorem d_M_follow_34 : decode prog_9_method_55_code 34 = .ok (.invokevirtual 80, 3) := by decide +kernel
theorem d_M_follow_37 : decode prog_9_method_55_code 37 = .ok (.istore 4, 2) := by decide +kernel
theorem d_M_follow_39 : decode prog_9_method_55_code 39 = .ok (.iload 4, 2) := by decide +kernel
theorem d_M_follow_41 : decode prog_9_method_55_code 41 = .ok (.ldc 52, 2) := by decide +kernel
theorem d_M_follow_43 : decode prog_9_method_55_code 43 = .ok (.if_icmp .eq 26, 3) := by decide +kernel
theorem d_M_follow_46 : decode prog_9_method_55_code 46 = .ok (.aload_n 0, 1) := by decide +kernel
theorem d_M_follow_47 : decode prog_9_method_55_code 47 = .ok (.iload 4, 2) := by decide +kernel
theorem d_M_follow_49 : decode prog_9_method_55_code 49 = .ok (.invokevirtual 80, 3) := by decide +kernel
theorem d_M_follow_52 : decode prog_9_method_55_code 52 = .ok (.ifCond .eq 17, 3) := by decide +kernel
theorem d_M_follow_55 : decode prog_9_method_55_code 55 = .ok (.aload_n 0, 1) := by decide +kernel
theorem d_M_follow_56 : decode prog_9_method_55_code 56 = .ok (.getfield 39, 3) := by decide +kernel
theorem d_M_follow_59 : decode prog_9_method_55_code 59 = .ok (.iload 4, 2) := by decide +kernel
theorem d_M_follow_61 : decode prog_9_method_55_code 61 = .ok (.baload, 1) := by decide +kernel
theorem d_M_follow_62 : decode prog_9_method_55_code 62 = .ok (.ifCond .ne 7, 3) := by decide +kernel
theorem d_M_follow_65 : decode prog_9_method_55_code 65 = .ok (.iconst 1, 1) := by decide +kernel
theorem d_M_follow_66 : decode prog_9_method_55_code 66 = .ok (.goto 4, 3) := by decide +kernel
theorem d_M_follow_69 : decode prog_9_method_55_code 69 = .ok (.iconst 0, 1) := by decide +kernel
theorem d_M_follow_70 : decode prog_9_method_55_code 70 = .ok (.istore 5, 2) := by decide +kernel
theorem d_M_follow_72 : decode prog_9_method_55_code 72 = .ok (.iload 5, 2) := by decide +kernel
theorem d_M_follow_74 : decode prog_9_method_55_code 74 = .ok (.ifCond .ne 17, 3) := by decide +kernel
theorem d_M_follow_77 : decode prog_9_method_55_code 77 = .ok (.iload 4, 2) := by decide +kernel
theorem d_M_follow_79 : decode prog_9_method_55_code 79 = .ok (.ldc 52, 2) := by decide +kernel
theorem d_M_follow_81 : decode prog_9_method_55_code 81 = .ok (.if_icmp .eq 10, 3) := by decide +kernel
theorem d_M_follow_84 : decode prog_9_method_55_code 84 = .ok (.aload_n 0, 1) := by decide +kernel
theorem d_M_follow_85 : decode prog_9_method_55_code 85 = .ok (.iload_n 3, 1) := by decide +kernel
theorem d_M_follow_86 : decode prog_9_method_55_code 86 = .ok (.ldc 52, 2) := by decide +kernel
theorem d_M_follow_88 : decode prog_9_method_55_code 88 = .ok (.invokevirtual 204, 3) := by decide +kernel
theorem d_M_follow_91 : decode prog_9_method_55_code 91 = .ok (.iload 5, 2) := by decide +kernel
theorem d_M_follow_93 : decode prog_9_method_55_code 93 = .ok (.ifCond .eq 8, 3) := by decide +kernel
theorem d_M_follow_96 : decode prog_9_method_55_code 96 = .ok (.iload 4, 2) := by decide +kernel
theorem d_M_follow_98 : decode prog_9_method_55_code 98 = .ok (.goto 4, 3) := by decide +kernel
theorem d_M_follow_101 : decode prog_9_method_55_code 101 = .ok (.iconst 0, 1) := by decide +kernel
theorem d_M_follow_102 : decode prog_9_method_55_code 102 = .ok (.istore_n 3, 1) := by decide +kernel
theorem d_M_follow_103 : decode prog_9_method_55_code 103 = .ok (.goto (-99), 3) := by decide +kernel
theorem d_M_follow_106 : decode prog_9_method_55_code 106 = .ok (.iload_n 2, 1) := by decide +kernel
theorem d_M_follow_107 : decode prog_9_method_55_code 107 = .ok (.ireturn, 1) := by decide +kernel
theorem d_M_tells_0 : decode prog_9_method_58_code 0 = .ok (.iconst 2, 1) := by decide +kernel
theorem d_M_tells_1 : decode prog_9_method_58_code 1 = .ok (.aload_n 0, 1) := by decide +kernel
theorem d_M_tells_2 : decode prog_9_method_58_code 2 = .ok (.iload_n 1, 1) := by decide +kernel
theorem d_M_tells_3 : decode prog_9_method_58_code 3 = .ok (.invokevirtual 126, 3) := by decide +kernel
theorem d_M_tells_6 : decode prog_9_method_58_code 6 = .ok (.imul, 1) := by decide +kernel
theorem d_M_tells_7 : decode prog_9_method_58_code 7 = .ok (.istore_n 3, 1) := by decide +kernel
theorem d_M_tells_8 : decode prog_9_method_58_code 8 = .ok (.aload_n 0, 1) := by decide +kernel
theorem d_M_tells_9 : decode prog_9_method_58_code 9 = .ok (.getfield 7, 3) := by decide +kernel
theorem d_M_tells_12 : decode prog_9_method_58_code 12 = .ok (.aload_n 0, 1) := by decide +kernel
theorem d_M_tells_13 : decode prog_9_method_58_code 13 = .ok (.iload_n 1, 1) := by decide +kernel
theorem d_M_tells_14 : decode prog_9_method_58_code 14 = .ok (.iload_n 2, 1) := by decide +kernel
theorem d_M_tells_15 : decode prog_9_method_58_code 15 = .ok (.invokevirtual 98, 3) := by decide +kernel
theorem d_M_tells_18 : decode prog_9_method_58_code 18 = .ok (.bipush 6, 2) := by decide +kernel
theorem d_M_tells_20 : decode prog_9_method_58_code 20 = .ok (.iadd, 1) := by decide +kernel
theorem d_M_tells_21 : decode prog_9_method_58_code 21 = .ok (.iaload, 1) := by decide +kernel
theorem d_M_tells_22 : decode prog_9_method_58_code 22 = .ok (.bipush 15, 2) := by decide +kernel
theorem d_M_tells_24 : decode prog_9_method_58_code 24 = .ok (.if_icmp .ne 44, 3) := by decide +kernel
theorem d_M_tells_27 : decode prog_9_method_58_code 27 = .ok (.iload_n 2, 1) := by decide +kernel
theorem d_M_tells_28 : decode prog_9_method_58_code 28 = .ok (.iconst 1, 1) := by decide +kernel
theorem d_M_tells_29 : decode prog_9_method_58_code 29 = .ok (.iadd, 1) := by decide +kernel
theorem d_M_tells_30 : decode prog_9_method_58_code 30 = .ok (.iload_n 3, 1) := by decide +kernel
theorem d_M_tells_31 : decode prog_9_method_58_code 31 = .ok (.if_icmp .ge 14, 3) := by decide +kernel
theorem d_M_tells_34 : decode prog_9_method_58_code 34 = .ok (.aload_n 0, 1) := by decide +kernel
theorem d_M_tells_35 : decode prog_9_method_58_code 35 = .ok (.iload_n 1, 1) := by decide +kernel
theorem d_M_tells_36 : decode prog_9_method_58_code 36 = .ok (.iload_n 2, 1) := by decide +kernel
theorem d_M_tells_37 : decode prog_9_method_58_code 37 = .ok (.iconst 1, 1) := by decide +kernel
theorem d_M_tells_38 : decode prog_9_method_58_code 38 = .ok (.iadd, 1) := by decide +kernel
theorem d_M_tells_39 : decode prog_9_method_58_code 39 = .ok (.invokevirtual 110, 3) := by decide +kernel
theorem d_M_tells_42 : decode prog_9_method_58_code 42 = .ok (.ifCond .gt 22, 3) := by decide +kernel
theorem d_M_tells_45 : decode prog_9_method_58_code 45 = .ok (.iload_n 2, 1) := by decide +kernel
theorem d_M_tells_46 : decode prog_9_method_58_code 46 = .ok (.iconst 2, 1) := by decide +kernel
theorem d_M_tells_47 : decode prog_9_method_58_code 47 = .ok (.iadd, 1) := by decide +kernel
theorem d_M_tells_48 : decode prog_9_method_58_code 48 = .ok (.iload_n 3, 1) := by decide +kernel
theorem d_M_tells_49 : decode prog_9_method_58_code 49 = .ok (.if_icmp .ge 19, 3) := by decide +kernel
theorem d_M_tells_52 : decode prog_9_method_58_code 52 = .ok (.aload_n 0, 1) := by decide +kernel
theorem d_M_tells_53 : decode prog_9_method_58_code 53 = .ok (.iload_n 1, 1) := by decide +kernel
theorem d_M_tells_54 : decode prog_9_method_58_code 54 = .ok (.iload_n 2, 1) := by decide +kernel
theorem d_M_tells_55 : decode prog_9_method_58_code 55 = .ok (.iconst 2, 1) := by decide +kernel
theorem d_M_tells_56 : decode prog_9_method_58_code 56 = .ok (.iadd, 1) := by decide +kernel
theorem d_M_tells_57 : decode prog_9_method_58_code 57 = .ok (.invokevirtual 110, 3) := by decide +kernel
theorem d_M_tells_60 : decode prog_9_method_58_code 60 = .ok (.iconst 2, 1) := by decide +kernel
theorem d_M_tells_61 : decode prog_9_method_58_code 61 = .ok (.if_icmp .ne 7, 3) := by decide +kernel
theorem d_M_tells_64 : decode prog_9_method_58_code 64 = .ok (.iconst 1, 1) := by decide +kernel
theorem d_M_tells_65 : decode prog_9_method_58_code 65 = .ok (.goto 4, 3) := by decide +kernel
theorem d_M_tells_68 : decode prog_9_method_58_code 68 = .ok (.iconst 0, 1) := by decide +kernel
theorem d_M_tells_69 : decode prog_9_method_58_code 69 = .ok (.ireturn, 1) := by decide +kernel
theorem d_M_isBad_0 : decode prog_9_method_57_code 0 = .ok (.aload_n 0, 1) := by decide +kernel
theorem d_M_isBad_1 : decode prog_9_method_57_code 1 = .ok (.getfield 7, 3) := by decide +kernel
theorem d_M_isBad_4 : decode prog_9_method_57_code 4 = .ok (.iload_n 1, 1) := by decide +kernel
theorem d_M_isBad_5 : decode prog_9_method_57_code 5 = .ok (.bipush 6, 2) := by decide +kernel
theorem d_M_isBad_7 : decode prog_9_method_57_code 7 = .ok (.iadd, 1) := by decide +kernel
theorem d_M_isBad_8 : decode prog_9_method_57_code 8 = .ok (.iaload, 1) := by decide +kernel
theorem d_M_isBad_9 : decode prog_9_method_57_code 9 = .ok (.istore_n 3, 1) := by decide +kernel
theorem d_M_isBad_10 : decode prog_9_method_57_code 10 = .ok (.aload_n 0, 1) := by decide +kernel
theorem d_M_isBad_11 : decode prog_9_method_57_code 11 = .ok (.iload_n 1, 1) := by decide +kernel
theorem d_M_isBad_12 : decode prog_9_method_57_code 12 = .ok (.bipush 8, 2) := by decide +kernel
theorem d_M_isBad_14 : decode prog_9_method_57_code 14 = .ok (.iadd, 1) := by decide +kernel
theorem d_M_isBad_15 : decode prog_9_method_57_code 15 = .ok (.invokevirtual 60, 3) := by decide +kernel
theorem d_M_isBad_18 : decode prog_9_method_57_code 18 = .ok (.istore 4, 2) := by decide +kernel
theorem d_M_isBad_20 : decode prog_9_method_57_code 20 = .ok (.iload_n 3, 1) := by decide +kernel
theorem d_M_isBad_21 : decode prog_9_method_57_code 21 = .ok (.iconst 1, 1) := by decide +kernel
theorem d_M_isBad_22 : decode prog_9_method_57_code 22 = .ok (.iconst 2, 1) := by decide +kernel
theorem d_M_isBad_23 : decode prog_9_method_57_code 23 = .ok (.invokestatic 86, 3) := by decide +kernel
theorem d_M_isBad_26 : decode prog_9_method_57_code 26 = .ok (.ifCond .eq 41, 3) := by decide +kernel
theorem d_M_isBad_29 : decode prog_9_method_57_code 29 = .ok (.iload 4, 2) := by decide +kernel
theorem d_M_isBad_31 : decode prog_9_method_57_code 31 = .ok (.iconst 1, 1) := by decide +kernel
theorem d_M_isBad_32 : decode prog_9_method_57_code 32 = .ok (.if_icmp .eq 35, 3) := by decide +kernel
theorem d_M_isBad_35 : decode prog_9_method_57_code 35 = .ok (.iload 4, 2) := by decide +kernel
theorem d_M_isBad_37 : decode prog_9_method_57_code 37 = .ok (.bipush 63, 2) := by decide +kernel
theorem d_M_isBad_39 : decode prog_9_method_57_code 39 = .ok (.if_icmp .gt 28, 3) := by decide +kernel
theorem d_M_isBad_42 : decode prog_9_method_57_code 42 = .ok (.iload 4, 2) := by decide +kernel
theorem d_M_isBad_44 : decode prog_9_method_57_code 44 = .ok (.iconst 1, 1) := by decide +kernel
theorem d_M_isBad_45 : decode prog_9_method_57_code 45 = .ok (.if_icmp .le 26, 3) := by decide +kernel
theorem d_M_isBad_48 : decode prog_9_method_57_code 48 = .ok (.aload_n 0, 1) := by decide +kernel
theorem d_M_isBad_49 : decode prog_9_method_57_code 49 = .ok (.iload 4, 2) := by decide +kernel
theorem d_M_isBad_51 : decode prog_9_method_57_code 51 = .ok (.invokevirtual 80, 3) := by decide +kernel
theorem d_M_isBad_54 : decode prog_9_method_57_code 54 = .ok (.ifCond .eq 13, 3) := by decide +kernel
theorem d_M_isBad_57 : decode prog_9_method_57_code 57 = .ok (.aload_n 0, 1) := by decide +kernel
theorem d_M_isBad_58 : decode prog_9_method_57_code 58 = .ok (.getfield 39, 3) := by decide +kernel
theorem d_M_isBad_61 : decode prog_9_method_57_code 61 = .ok (.iload 4, 2) := by decide +kernel
theorem d_M_isBad_63 : decode prog_9_method_57_code 63 = .ok (.baload, 1) := by decide +kernel
theorem d_M_isBad_64 : decode prog_9_method_57_code 64 = .ok (.ifCond .eq 7, 3) := by decide +kernel
theorem d_M_isBad_67 : decode prog_9_method_57_code 67 = .ok (.iconst 1, 1) := by decide +kernel
theorem d_M_isBad_68 : decode prog_9_method_57_code 68 = .ok (.goto 4, 3) := by decide +kernel
theorem d_M_isBad_71 : decode prog_9_method_57_code 71 = .ok (.iconst 0, 1) := by decide +kernel
theorem d_M_isBad_72 : decode prog_9_method_57_code 72 = .ok (.istore 5, 2) := by decide +kernel
theorem d_M_isBad_74 : decode prog_9_method_57_code 74 = .ok (.iload 5, 2) := by decide +kernel
theorem d_M_isBad_76 : decode prog_9_method_57_code 76 = .ok (.ifCond .ne 18, 3) := by decide +kernel
theorem d_M_isBad_79 : decode prog_9_method_57_code 79 = .ok (.iload_n 3, 1) := by decide +kernel
theorem d_M_isBad_80 : decode prog_9_method_57_code 80 = .ok (.iconst 2, 1) := by decide +kernel
theorem d_M_isBad_81 : decode prog_9_method_57_code 81 = .ok (.if_icmp .ne 17, 3) := by decide +kernel
theorem d_M_isBad_84 : decode prog_9_method_57_code 84 = .ok (.iload 4, 2) := by decide +kernel
theorem d_M_isBad_86 : decode prog_9_method_57_code 86 = .ok (.ifCond .eq 8, 3) := by decide +kernel
theorem d_M_isBad_89 : decode prog_9_method_57_code 89 = .ok (.iload_n 2, 1) := by decide +kernel
theorem d_M_isBad_90 : decode prog_9_method_57_code 90 = .ok (.iconst 4, 1) := by decide +kernel
theorem d_M_isBad_91 : decode prog_9_method_57_code 91 = .ok (.if_icmp .ne 7, 3) := by decide +kernel
theorem d_M_isBad_94 : decode prog_9_method_57_code 94 = .ok (.iconst 1, 1) := by decide +kernel
theorem d_M_isBad_95 : decode prog_9_method_57_code 95 = .ok (.goto 4, 3) := by decide +kernel
theorem d_M_isBad_98 : decode prog_9_method_57_code 98 = .ok (.iconst 0, 1) := by decide +kernel
theorem d_M_isBad_99 : decode prog_9_method_57_code 99 = .ok (.ireturn, 1) := by decide +kernel
theorem d_M_mendFile_0 : decode prog_9_method_56_code 0 = .ok (.aload_n 0, 1) := by decide +kernel
theorem d_M_mendFile_1 : decode prog_9_method_56_code 1 = .ok (.iload_n 1, 1) := by decide +kernel
theorem d_M_mendFile_2 : decode prog_9_method_56_code 2 = .ok (.bipush 10, 2) := by decide +kernel
theorem d_M_mendFile_4 : decode prog_9_method_56_code 4 = .ok (.iadd, 1) := by decide +kernel
theorem d_M_mendFile_5 : decode prog_9_method_56_code 5 = .ok (.invokevirtual 60, 3) := by decide +kernel
theorem d_M_mendFile_8 : decode prog_9_method_56_code 8 = .ok (.bipush 31, 2) := by decide +kernel
theorem d_M_mendFile_10 : decode prog_9_method_56_code 10 = .ok (.iadd, 1) := by decide +kernel
theorem d_M_mendFile_11 : decode prog_9_method_56_code 11 = .ok (.bipush 32, 2) := by decide +kernel
theorem d_M_mendFile_13 : decode prog_9_method_56_code 13 = .ok (.idiv, 1) := by decide +kernel
theorem d_M_mendFile_14 : decode prog_9_method_56_code 14 = .ok (.istore_n 3, 1) := by decide +kernel
theorem d_M_mendFile_15 : decode prog_9_method_56_code 15 = .ok (.iload_n 3, 1) := by decide +kernel
theorem d_M_mendFile_16 : decode prog_9_method_56_code 16 = .ok (.iload_n 2, 1) := by decide +kernel
theorem d_M_mendFile_17 : decode prog_9_method_56_code 17 = .ok (.if_icmp .le 25, 3) := by decide +kernel
theorem d_M_mendFile_20 : decode prog_9_method_56_code 20 = .ok (.aload_n 0, 1) := by decide +kernel
theorem d_M_mendFile_21 : decode prog_9_method_56_code 21 = .ok (.iload_n 1, 1) := by decide +kernel
theorem d_M_mendFile_22 : decode prog_9_method_56_code 22 = .ok (.bipush 10, 2) := by decide +kernel
theorem d_M_mendFile_24 : decode prog_9_method_56_code 24 = .ok (.iadd, 1) := by decide +kernel
theorem d_M_mendFile_25 : decode prog_9_method_56_code 25 = .ok (.bipush 32, 2) := by decide +kernel
theorem d_M_mendFile_27 : decode prog_9_method_56_code 27 = .ok (.iload_n 2, 1) := by decide +kernel
theorem d_M_mendFile_28 : decode prog_9_method_56_code 28 = .ok (.imul, 1) := by decide +kernel
theorem d_M_mendFile_29 : decode prog_9_method_56_code 29 = .ok (.invokevirtual 191, 3) := by decide +kernel
theorem d_M_mendFile_32 : decode prog_9_method_56_code 32 = .ok (.aload_n 0, 1) := by decide +kernel
theorem d_M_mendFile_33 : decode prog_9_method_56_code 33 = .ok (.dup, 1) := by decide +kernel
theorem d_M_mendFile_34 : decode prog_9_method_56_code 34 = .ok (.getfield 200, 3) := by decide +kernel
theorem d_M_mendFile_37 : decode prog_9_method_56_code 37 = .ok (.iconst 1, 1) := by decide +kernel
theorem d_M_mendFile_38 : decode prog_9_method_56_code 38 = .ok (.iadd, 1) := by decide +kernel
theorem d_M_mendFile_39 : decode prog_9_method_56_code 39 = .ok (.putfield 200, 3) := by decide +kernel
theorem d_M_mendFile_42 : decode prog_9_method_56_code 42 = .ok (.iload_n 3, 1) := by decide +kernel
theorem d_M_mendFile_43 : decode prog_9_method_56_code 43 = .ok (.iload_n 2, 1) := by decide +kernel
theorem d_M_mendFile_44 : decode prog_9_method_56_code 44 = .ok (.if_icmp .ge 71, 3) := by decide +kernel
theorem d_M_mendFile_47 : decode prog_9_method_56_code 47 = .ok (.iload_n 3, 1) := by decide +kernel
theorem d_M_mendFile_48 : decode prog_9_method_56_code 48 = .ok (.istore 4, 2) := by decide +kernel
theorem d_M_mendFile_50 : decode prog_9_method_56_code 50 = .ok (.iload 4, 2) := by decide +kernel
theorem d_M_mendFile_52 : decode prog_9_method_56_code 52 = .ok (.iload_n 2, 1) := by decide +kernel
theorem d_M_mendFile_53 : decode prog_9_method_56_code 53 = .ok (.if_icmp .ge 22, 3) := by decide +kernel
theorem d_M_mendFile_56 : decode prog_9_method_56_code 56 = .ok (.aload_n 0, 1) := by decide +kernel
theorem d_M_mendFile_57 : decode prog_9_method_56_code 57 = .ok (.getfield 39, 3) := by decide +kernel
theorem d_M_mendFile_60 : decode prog_9_method_56_code 60 = .ok (.aload_n 0, 1) := by decide +kernel
theorem d_M_mendFile_61 : decode prog_9_method_56_code 61 = .ok (.getfield 43, 3) := by decide +kernel
theorem d_M_mendFile_64 : decode prog_9_method_56_code 64 = .ok (.iload 4, 2) := by decide +kernel
theorem d_M_mendFile_66 : decode prog_9_method_56_code 66 = .ok (.iaload, 1) := by decide +kernel
theorem d_M_mendFile_67 : decode prog_9_method_56_code 67 = .ok (.iconst 0, 1) := by decide +kernel
theorem d_M_mendFile_68 : decode prog_9_method_56_code 68 = .ok (.bastore, 1) := by decide +kernel
theorem d_M_mendFile_69 : decode prog_9_method_56_code 69 = .ok (.iinc 4 1, 3) := by decide +kernel
theorem d_M_mendFile_72 : decode prog_9_method_56_code 72 = .ok (.goto (-22), 3) := by decide +kernel
theorem d_M_mendFile_75 : decode prog_9_method_56_code 75 = .ok (.iload_n 3, 1) := by decide +kernel
theorem d_M_mendFile_76 : decode prog_9_method_56_code 76 = .ok (.ifCond .le 20, 3) := by decide +kernel
theorem d_M_mendFile_79 : decode prog_9_method_56_code 79 = .ok (.aload_n 0, 1) := by decide +kernel
theorem d_M_mendFile_80 : decode prog_9_method_56_code 80 = .ok (.aload_n 0, 1) := by decide +kernel
theorem d_M_mendFile_81 : decode prog_9_method_56_code 81 = .ok (.getfield 43, 3) := by decide +kernel
theorem d_M_mendFile_84 : decode prog_9_method_56_code 84 = .ok (.iload_n 3, 1) := by decide +kernel
theorem d_M_mendFile_85 : decode prog_9_method_56_code 85 = .ok (.iconst 1, 1) := by decide +kernel
theorem d_M_mendFile_86 : decode prog_9_method_56_code 86 = .ok (.isub, 1) := by decide +kernel
theorem d_M_mendFile_87 : decode prog_9_method_56_code 87 = .ok (.iaload, 1) := by decide +kernel
theorem d_M_mendFile_88 : decode prog_9_method_56_code 88 = .ok (.ldc 52, 2) := by decide +kernel
theorem d_M_mendFile_90 : decode prog_9_method_56_code 90 = .ok (.invokevirtual 204, 3) := by decide +kernel
theorem d_M_mendFile_93 : decode prog_9_method_56_code 93 = .ok (.goto 22, 3) := by decide +kernel
theorem d_M_mendFile_96 : decode prog_9_method_56_code 96 = .ok (.aload_n 0, 1) := by decide +kernel
theorem d_M_mendFile_97 : decode prog_9_method_56_code 97 = .ok (.iload_n 1, 1) := by decide +kernel
theorem d_M_mendFile_98 : decode prog_9_method_56_code 98 = .ok (.bipush 8, 2) := by decide +kernel
theorem d_M_mendFile_100 : decode prog_9_method_56_code 100 = .ok (.iadd, 1) := by decide +kernel
theorem d_M_mendFile_101 : decode prog_9_method_56_code 101 = .ok (.iconst 0, 1) := by decide +kernel
theorem d_M_mendFile_102 : decode prog_9_method_56_code 102 = .ok (.invokevirtual 191, 3) := by decide +kernel
theorem d_M_mendFile_105 : decode prog_9_method_56_code 105 = .ok (.aload_n 0, 1) := by decide +kernel
theorem d_M_mendFile_106 : decode prog_9_method_56_code 106 = .ok (.dup, 1) := by decide +kernel
theorem d_M_mendFile_107 : decode prog_9_method_56_code 107 = .ok (.getfield 200, 3) := by decide +kernel
theorem d_M_mendFile_110 : decode prog_9_method_56_code 110 = .ok (.iconst 1, 1) := by decide +kernel
theorem d_M_mendFile_111 : decode prog_9_method_56_code 111 = .ok (.iadd, 1) := by decide +kernel
theorem d_M_mendFile_112 : decode prog_9_method_56_code 112 = .ok (.putfield 200, 3) := by decide +kernel
theorem d_M_mendFile_115 : decode prog_9_method_56_code 115 = .ok (.return_, 1) := by decide +kernel
theorem d_M_walk_0 : decode prog_9_method_59_code 0 = .ok (.iconst 0, 1) := by decide +kernel
theorem d_M_walk_1 : decode prog_9_method_59_code 1 = .ok (.istore_n 1, 1) := by decide +kernel
theorem d_M_walk_2 : decode prog_9_method_59_code 2 = .ok (.aload_n 0, 1) := by decide +kernel
theorem d_M_walk_3 : decode prog_9_method_59_code 3 = .ok (.getfield 46, 3) := by decide +kernel
theorem d_M_walk_6 : decode prog_9_method_59_code 6 = .ok (.iconst 0, 1) := by decide +kernel
theorem d_M_walk_7 : decode prog_9_method_59_code 7 = .ok (.iconst 2, 1) := by decide +kernel
theorem d_M_walk_8 : decode prog_9_method_59_code 8 = .ok (.iastore, 1) := by decide +kernel
theorem d_M_walk_9 : decode prog_9_method_59_code 9 = .ok (.aload_n 0, 1) := by decide +kernel
theorem d_M_walk_10 : decode prog_9_method_59_code 10 = .ok (.getfield 49, 3) := by decide +kernel
theorem d_M_walk_13 : decode prog_9_method_59_code 13 = .ok (.iconst 0, 1) := by decide +kernel
theorem d_M_walk_14 : decode prog_9_method_59_code 14 = .ok (.iconst 0, 1) := by decide +kernel
theorem d_M_walk_15 : decode prog_9_method_59_code 15 = .ok (.iastore, 1) := by decide +kernel
theorem d_M_walk_16 : decode prog_9_method_59_code 16 = .ok (.iload_n 1, 1) := by decide +kernel
theorem d_M_walk_17 : decode prog_9_method_59_code 17 = .ok (.ifCond .lt 190, 3) := by decide +kernel
theorem d_M_walk_20 : decode prog_9_method_59_code 20 = .ok (.aload_n 0, 1) := by decide +kernel
theorem d_M_walk_21 : decode prog_9_method_59_code 21 = .ok (.getfield 64, 3) := by decide +kernel
theorem d_M_walk_24 : decode prog_9_method_59_code 24 = .ok (.ifCond .ne 183, 3) := by decide +kernel
theorem d_M_walk_27 : decode prog_9_method_59_code 27 = .ok (.aload_n 0, 1) := by decide +kernel
theorem d_M_walk_28 : decode prog_9_method_59_code 28 = .ok (.getfield 49, 3) := by decide +kernel
theorem d_M_walk_31 : decode prog_9_method_59_code 31 = .ok (.iload_n 1, 1) := by decide +kernel
theorem d_M_walk_32 : decode prog_9_method_59_code 32 = .ok (.iaload, 1) := by decide +kernel
theorem d_M_walk_33 : decode prog_9_method_59_code 33 = .ok (.istore_n 2, 1) := by decide +kernel
theorem d_M_walk_34 : decode prog_9_method_59_code 34 = .ok (.iload_n 2, 1) := by decide +kernel
theorem d_M_walk_35 : decode prog_9_method_59_code 35 = .ok (.iconst 2, 1) := by decide +kernel
theorem d_M_walk_36 : decode prog_9_method_59_code 36 = .ok (.aload_n 0, 1) := by decide +kernel
theorem d_M_walk_37 : decode prog_9_method_59_code 37 = .ok (.aload_n 0, 1) := by decide +kernel
theorem d_M_walk_38 : decode prog_9_method_59_code 38 = .ok (.getfield 46, 3) := by decide +kernel
theorem d_M_walk_41 : decode prog_9_method_59_code 41 = .ok (.iload_n 1, 1) := by decide +kernel
theorem d_M_walk_42 : decode prog_9_method_59_code 42 = .ok (.iaload, 1) := by decide +kernel
theorem d_M_walk_43 : decode prog_9_method_59_code 43 = .ok (.invokevirtual 126, 3) := by decide +kernel
theorem d_M_walk_46 : decode prog_9_method_59_code 46 = .ok (.imul, 1) := by decide +kernel
theorem d_M_walk_47 : decode prog_9_method_59_code 47 = .ok (.if_icmp .lt 9, 3) := by decide +kernel
theorem d_M_walk_50 : decode prog_9_method_59_code 50 = .ok (.iinc 1 (-1), 3) := by decide +kernel
theorem d_M_walk_53 : decode prog_9_method_59_code 53 = .ok (.goto (-37), 3) := by decide +kernel
theorem d_M_walk_56 : decode prog_9_method_59_code 56 = .ok (.aload_n 0, 1) := by decide +kernel
theorem d_M_walk_57 : decode prog_9_method_59_code 57 = .ok (.getfield 49, 3) := by decide +kernel
theorem d_M_walk_60 : decode prog_9_method_59_code 60 = .ok (.iload_n 1, 1) := by decide +kernel
theorem d_M_walk_61 : decode prog_9_method_59_code 61 = .ok (.dup2, 1) := by decide +kernel
theorem d_M_walk_62 : decode prog_9_method_59_code 62 = .ok (.iaload, 1) := by decide +kernel
theorem d_M_walk_63 : decode prog_9_method_59_code 63 = .ok (.iconst 1, 1) := by decide +kernel
theorem d_M_walk_64 : decode prog_9_method_59_code 64 = .ok (.iadd, 1) := by decide +kernel
theorem d_M_walk_65 : decode prog_9_method_59_code 65 = .ok (.iastore, 1) := by decide +kernel
theorem d_M_walk_66 : decode prog_9_method_59_code 66 = .ok (.aload_n 0, 1) := by decide +kernel
theorem d_M_walk_67 : decode prog_9_method_59_code 67 = .ok (.aload_n 0, 1) := by decide +kernel
theorem d_M_walk_68 : decode prog_9_method_59_code 68 = .ok (.getfield 46, 3) := by decide +kernel
theorem d_M_walk_71 : decode prog_9_method_59_code 71 = .ok (.iload_n 1, 1) := by decide +kernel
theorem d_M_walk_72 : decode prog_9_method_59_code 72 = .ok (.iaload, 1) := by decide +kernel
theorem d_M_walk_73 : decode prog_9_method_59_code 73 = .ok (.iload_n 2, 1) := by decide +kernel
theorem d_M_walk_74 : decode prog_9_method_59_code 74 = .ok (.invokevirtual 98, 3) := by decide +kernel
theorem d_M_walk_77 : decode prog_9_method_59_code 77 = .ok (.istore_n 3, 1) := by decide +kernel
theorem d_M_walk_78 : decode prog_9_method_59_code 78 = .ok (.aload_n 0, 1) := by decide +kernel
theorem d_M_walk_79 : decode prog_9_method_59_code 79 = .ok (.iload_n 3, 1) := by decide +kernel
theorem d_M_walk_80 : decode prog_9_method_59_code 80 = .ok (.invokevirtual 94, 3) := by decide +kernel
theorem d_M_walk_83 : decode prog_9_method_59_code 83 = .ok (.ifCond .ne (-67), 3) := by decide +kernel
theorem d_M_walk_86 : decode prog_9_method_59_code 86 = .ok (.aload_n 0, 1) := by decide +kernel
theorem d_M_walk_87 : decode prog_9_method_59_code 87 = .ok (.aload_n 0, 1) := by decide +kernel
theorem d_M_walk_88 : decode prog_9_method_59_code 88 = .ok (.getfield 46, 3) := by decide +kernel
theorem d_M_walk_91 : decode prog_9_method_59_code 91 = .ok (.iload_n 1, 1) := by decide +kernel
theorem d_M_walk_92 : decode prog_9_method_59_code 92 = .ok (.iaload, 1) := by decide +kernel
theorem d_M_walk_93 : decode prog_9_method_59_code 93 = .ok (.iload_n 2, 1) := by decide +kernel
theorem d_M_walk_94 : decode prog_9_method_59_code 94 = .ok (.invokevirtual 207, 3) := by decide +kernel
theorem d_M_walk_97 : decode prog_9_method_59_code 97 = .ok (.ifCond .eq 6, 3) := by decide +kernel
theorem d_M_walk_100 : decode prog_9_method_59_code 100 = .ok (.goto (-84), 3) := by decide +kernel
theorem d_M_walk_103 : decode prog_9_method_59_code 103 = .ok (.aload_n 0, 1) := by decide +kernel
theorem d_M_walk_104 : decode prog_9_method_59_code 104 = .ok (.iload_n 3, 1) := by decide +kernel
theorem d_M_walk_105 : decode prog_9_method_59_code 105 = .ok (.iload_n 1, 1) := by decide +kernel
theorem d_M_walk_106 : decode prog_9_method_59_code 106 = .ok (.invokevirtual 211, 3) := by decide +kernel
theorem d_M_walk_109 : decode prog_9_method_59_code 109 = .ok (.ifCond .eq 27, 3) := by decide +kernel
theorem d_M_walk_112 : decode prog_9_method_59_code 112 = .ok (.aload_n 0, 1) := by decide +kernel
theorem d_M_walk_113 : decode prog_9_method_59_code 113 = .ok (.aload_n 0, 1) := by decide +kernel
theorem d_M_walk_114 : decode prog_9_method_59_code 114 = .ok (.getfield 46, 3) := by decide +kernel
theorem d_M_walk_117 : decode prog_9_method_59_code 117 = .ok (.iload_n 1, 1) := by decide +kernel
theorem d_M_walk_118 : decode prog_9_method_59_code 118 = .ok (.iaload, 1) := by decide +kernel
theorem d_M_walk_119 : decode prog_9_method_59_code 119 = .ok (.iload_n 2, 1) := by decide +kernel
theorem d_M_walk_120 : decode prog_9_method_59_code 120 = .ok (.invokevirtual 177, 3) := by decide +kernel
theorem d_M_walk_123 : decode prog_9_method_59_code 123 = .ok (.aload_n 0, 1) := by decide +kernel
theorem d_M_walk_124 : decode prog_9_method_59_code 124 = .ok (.dup, 1) := by decide +kernel
theorem d_M_walk_125 : decode prog_9_method_59_code 125 = .ok (.getfield 200, 3) := by decide +kernel
theorem d_M_walk_128 : decode prog_9_method_59_code 128 = .ok (.iconst 1, 1) := by decide +kernel
theorem d_M_walk_129 : decode prog_9_method_59_code 129 = .ok (.iadd, 1) := by decide +kernel
theorem d_M_walk_130 : decode prog_9_method_59_code 130 = .ok (.putfield 200, 3) := by decide +kernel
theorem d_M_walk_133 : decode prog_9_method_59_code 133 = .ok (.goto (-117), 3) := by decide +kernel
theorem d_M_walk_136 : decode prog_9_method_59_code 136 = .ok (.aload_n 0, 1) := by decide +kernel
theorem d_M_walk_137 : decode prog_9_method_59_code 137 = .ok (.iload_n 3, 1) := by decide +kernel
theorem d_M_walk_138 : decode prog_9_method_59_code 138 = .ok (.bipush 8, 2) := by decide +kernel
theorem d_M_walk_140 : decode prog_9_method_59_code 140 = .ok (.iadd, 1) := by decide +kernel
theorem d_M_walk_141 : decode prog_9_method_59_code 141 = .ok (.invokevirtual 60, 3) := by decide +kernel
theorem d_M_walk_144 : decode prog_9_method_59_code 144 = .ok (.istore 4, 2) := by decide +kernel
theorem d_M_walk_146 : decode prog_9_method_59_code 146 = .ok (.iload 4, 2) := by decide +kernel
theorem d_M_walk_148 : decode prog_9_method_59_code 148 = .ok (.ifCond .ne 7, 3) := by decide +kernel
theorem d_M_walk_151 : decode prog_9_method_59_code 151 = .ok (.iconst 0, 1) := by decide +kernel
theorem d_M_walk_152 : decode prog_9_method_59_code 152 = .ok (.goto 9, 3) := by decide +kernel
theorem d_M_walk_155 : decode prog_9_method_59_code 155 = .ok (.aload_n 0, 1) := by decide +kernel
theorem d_M_walk_156 : decode prog_9_method_59_code 156 = .ok (.iload 4, 2) := by decide +kernel
theorem d_M_walk_158 : decode prog_9_method_59_code 158 = .ok (.invokevirtual 214, 3) := by decide +kernel
theorem d_M_walk_161 : decode prog_9_method_59_code 161 = .ok (.istore 5, 2) := by decide +kernel
theorem d_M_walk_163 : decode prog_9_method_59_code 163 = .ok (.aload_n 0, 1) := by decide +kernel
theorem d_M_walk_164 : decode prog_9_method_59_code 164 = .ok (.getfield 7, 3) := by decide +kernel
theorem d_M_walk_167 : decode prog_9_method_59_code 167 = .ok (.iload_n 3, 1) := by decide +kernel
theorem d_M_walk_168 : decode prog_9_method_59_code 168 = .ok (.bipush 6, 2) := by decide +kernel
theorem d_M_walk_170 : decode prog_9_method_59_code 170 = .ok (.iadd, 1) := by decide +kernel
theorem d_M_walk_171 : decode prog_9_method_59_code 171 = .ok (.iaload, 1) := by decide +kernel
theorem d_M_walk_172 : decode prog_9_method_59_code 172 = .ok (.iconst 1, 1) := by decide +kernel
theorem d_M_walk_173 : decode prog_9_method_59_code 173 = .ok (.if_icmp .ne 13, 3) := by decide +kernel
theorem d_M_walk_176 : decode prog_9_method_59_code 176 = .ok (.aload_n 0, 1) := by decide +kernel
theorem d_M_walk_177 : decode prog_9_method_59_code 177 = .ok (.iload_n 3, 1) := by decide +kernel
theorem d_M_walk_178 : decode prog_9_method_59_code 178 = .ok (.iload 5, 2) := by decide +kernel
theorem d_M_walk_180 : decode prog_9_method_59_code 180 = .ok (.invokevirtual 217, 3) := by decide +kernel
theorem d_M_walk_183 : decode prog_9_method_59_code 183 = .ok (.goto 21, 3) := by decide +kernel
theorem d_M_walk_186 : decode prog_9_method_59_code 186 = .ok (.iinc 1 1, 3) := by decide +kernel
theorem d_M_walk_189 : decode prog_9_method_59_code 189 = .ok (.aload_n 0, 1) := by decide +kernel
theorem d_M_walk_190 : decode prog_9_method_59_code 190 = .ok (.getfield 46, 3) := by decide +kernel
theorem d_M_walk_193 : decode prog_9_method_59_code 193 = .ok (.iload_n 1, 1) := by decide +kernel
theorem d_M_walk_194 : decode prog_9_method_59_code 194 = .ok (.iload 4, 2) := by decide +kernel
theorem d_M_walk_196 : decode prog_9_method_59_code 196 = .ok (.iastore, 1) := by decide +kernel
theorem d_M_walk_197 : decode prog_9_method_59_code 197 = .ok (.aload_n 0, 1) := by decide +kernel
theorem d_M_walk_198 : decode prog_9_method_59_code 198 = .ok (.getfield 49, 3) := by decide +kernel
theorem d_M_walk_201 : decode prog_9_method_59_code 201 = .ok (.iload_n 1, 1) := by decide +kernel
theorem d_M_walk_202 : decode prog_9_method_59_code 202 = .ok (.iconst 0, 1) := by decide +kernel
theorem d_M_walk_203 : decode prog_9_method_59_code 203 = .ok (.iastore, 1) := by decide +kernel
theorem d_M_walk_204 : decode prog_9_method_59_code 204 = .ok (.goto (-188), 3) := by decide +kernel
theorem d_M_walk_207 : decode prog_9_method_59_code 207 = .ok (.return_, 1) := by decide +kernel
theorem d_M_repair_0 : decode prog_9_method_60_code 0 = .ok (.aload_n 0, 1) := by decide +kernel
theorem d_M_repair_1 : decode prog_9_method_60_code 1 = .ok (.iconst 0, 1) := by decide +kernel
theorem d_M_repair_2 : decode prog_9_method_60_code 2 = .ok (.putfield 64, 3) := by decide +kernel
theorem d_M_repair_5 : decode prog_9_method_60_code 5 = .ok (.aload_n 0, 1) := by decide +kernel
theorem d_M_repair_6 : decode prog_9_method_60_code 6 = .ok (.aload_n 0, 1) := by decide +kernel
theorem d_M_repair_7 : decode prog_9_method_60_code 7 = .ok (.getfield 13, 3) := by decide +kernel
theorem d_M_repair_10 : decode prog_9_method_60_code 10 = .ok (.ifCond .eq 7, 3) := by decide +kernel
theorem d_M_repair_13 : decode prog_9_method_60_code 13 = .ok (.iconst 0, 1) := by decide +kernel
theorem d_M_repair_14 : decode prog_9_method_60_code 14 = .ok (.goto 4, 3) := by decide +kernel
theorem d_M_repair_17 : decode prog_9_method_60_code 17 = .ok (.iconst 1, 1) := by decide +kernel
theorem d_M_repair_18 : decode prog_9_method_60_code 18 = .ok (.putfield 57, 3) := by decide +kernel
theorem d_M_repair_21 : decode prog_9_method_60_code 21 = .ok (.aload_n 0, 1) := by decide +kernel
theorem d_M_repair_22 : decode prog_9_method_60_code 22 = .ok (.getfield 13, 3) := by decide +kernel
theorem d_M_repair_25 : decode prog_9_method_60_code 25 = .ok (.ifCond .ne 5, 3) := by decide +kernel
theorem d_M_repair_28 : decode prog_9_method_60_code 28 = .ok (.iconst 0, 1) := by decide +kernel
theorem d_M_repair_29 : decode prog_9_method_60_code 29 = .ok (.ireturn, 1) := by decide +kernel
theorem d_M_repair_30 : decode prog_9_method_60_code 30 = .ok (.aload_n 0, 1) := by decide +kernel
theorem d_M_repair_31 : decode prog_9_method_60_code 31 = .ok (.invokevirtual 70, 3) := by decide +kernel
theorem d_M_repair_34 : decode prog_9_method_60_code 34 = .ok (.aload_n 0, 1) := by decide +kernel
theorem d_M_repair_35 : decode prog_9_method_60_code 35 = .ok (.iconst 0, 1) := by decide +kernel
theorem d_M_repair_36 : decode prog_9_method_60_code 36 = .ok (.putfield 200, 3) := by decide +kernel
theorem d_M_repair_39 : decode prog_9_method_60_code 39 = .ok (.iconst 0, 1) := by decide +kernel
theorem d_M_repair_40 : decode prog_9_method_60_code 40 = .ok (.istore_n 1, 1) := by decide +kernel
theorem d_M_repair_41 : decode prog_9_method_60_code 41 = .ok (.iload_n 1, 1) := by decide +kernel
theorem d_M_repair_42 : decode prog_9_method_60_code 42 = .ok (.bipush 64, 2) := by decide +kernel
theorem d_M_repair_44 : decode prog_9_method_60_code 44 = .ok (.if_icmp .ge 16, 3) := by decide +kernel
theorem d_M_repair_47 : decode prog_9_method_60_code 47 = .ok (.aload_n 0, 1) := by decide +kernel
theorem d_M_repair_48 : decode prog_9_method_60_code 48 = .ok (.getfield 39, 3) := by decide +kernel
theorem d_M_repair_51 : decode prog_9_method_60_code 51 = .ok (.iload_n 1, 1) := by decide +kernel
theorem d_M_repair_52 : decode prog_9_method_60_code 52 = .ok (.iconst 0, 1) := by decide +kernel
theorem d_M_repair_53 : decode prog_9_method_60_code 53 = .ok (.bastore, 1) := by decide +kernel
theorem d_M_repair_54 : decode prog_9_method_60_code 54 = .ok (.iinc 1 1, 3) := by decide +kernel
theorem d_M_repair_57 : decode prog_9_method_60_code 57 = .ok (.goto (-16), 3) := by decide +kernel
theorem d_M_repair_60 : decode prog_9_method_60_code 60 = .ok (.aload_n 0, 1) := by decide +kernel
theorem d_M_repair_61 : decode prog_9_method_60_code 61 = .ok (.invokevirtual 220, 3) := by decide +kernel
theorem d_M_repair_64 : decode prog_9_method_60_code 64 = .ok (.aload_n 0, 1) := by decide +kernel
theorem d_M_repair_65 : decode prog_9_method_60_code 65 = .ok (.iconst 2, 1) := by decide +kernel
theorem d_M_repair_66 : decode prog_9_method_60_code 66 = .ok (.invokevirtual 80, 3) := by decide +kernel
theorem d_M_repair_69 : decode prog_9_method_60_code 69 = .ok (.ifCond .ne 17, 3) := by decide +kernel
theorem d_M_repair_72 : decode prog_9_method_60_code 72 = .ok (.aload_n 0, 1) := by decide +kernel
theorem d_M_repair_73 : decode prog_9_method_60_code 73 = .ok (.getfield 64, 3) := by decide +kernel
theorem d_M_repair_76 : decode prog_9_method_60_code 76 = .ok (.ifCond .ne 10, 3) := by decide +kernel
theorem d_M_repair_79 : decode prog_9_method_60_code 79 = .ok (.aload_n 0, 1) := by decide +kernel
theorem d_M_repair_80 : decode prog_9_method_60_code 80 = .ok (.iconst 2, 1) := by decide +kernel
theorem d_M_repair_81 : decode prog_9_method_60_code 81 = .ok (.ldc 52, 2) := by decide +kernel
theorem d_M_repair_83 : decode prog_9_method_60_code 83 = .ok (.invokevirtual 204, 3) := by decide +kernel
theorem d_M_repair_86 : decode prog_9_method_60_code 86 = .ok (.aload_n 0, 1) := by decide +kernel
theorem d_M_repair_87 : decode prog_9_method_60_code 87 = .ok (.getfield 64, 3) := by decide +kernel
theorem d_M_repair_90 : decode prog_9_method_60_code 90 = .ok (.ifCond .ne 13, 3) := by decide +kernel
theorem d_M_repair_93 : decode prog_9_method_60_code 93 = .ok (.aload_n 0, 1) := by decide +kernel
theorem d_M_repair_94 : decode prog_9_method_60_code 94 = .ok (.iconst 2, 1) := by decide +kernel
theorem d_M_repair_95 : decode prog_9_method_60_code 95 = .ok (.invokevirtual 214, 3) := by decide +kernel
theorem d_M_repair_98 : decode prog_9_method_60_code 98 = .ok (.istore_n 1, 1) := by decide +kernel
theorem d_M_repair_99 : decode prog_9_method_60_code 99 = .ok (.aload_n 0, 1) := by decide +kernel
theorem d_M_repair_100 : decode prog_9_method_60_code 100 = .ok (.invokevirtual 223, 3) := by decide +kernel
theorem d_M_repair_103 : decode prog_9_method_60_code 103 = .ok (.iconst 2, 1) := by decide +kernel
theorem d_M_repair_104 : decode prog_9_method_60_code 104 = .ok (.istore_n 1, 1) := by decide +kernel
theorem d_M_repair_105 : decode prog_9_method_60_code 105 = .ok (.iload_n 1, 1) := by decide +kernel
theorem d_M_repair_106 : decode prog_9_method_60_code 106 = .ok (.bipush 64, 2) := by decide +kernel
theorem d_M_repair_108 : decode prog_9_method_60_code 108 = .ok (.if_icmp .ge 39, 3) := by decide +kernel
theorem d_M_repair_111 : decode prog_9_method_60_code 111 = .ok (.aload_n 0, 1) := by decide +kernel
theorem d_M_repair_112 : decode prog_9_method_60_code 112 = .ok (.getfield 64, 3) := by decide +kernel
theorem d_M_repair_115 : decode prog_9_method_60_code 115 = .ok (.ifCond .ne 32, 3) := by decide +kernel
theorem d_M_repair_118 : decode prog_9_method_60_code 118 = .ok (.aload_n 0, 1) := by decide +kernel
theorem d_M_repair_119 : decode prog_9_method_60_code 119 = .ok (.iload_n 1, 1) := by decide +kernel
theorem d_M_repair_120 : decode prog_9_method_60_code 120 = .ok (.invokevirtual 80, 3) := by decide +kernel
theorem d_M_repair_123 : decode prog_9_method_60_code 123 = .ok (.ifCond .eq 18, 3) := by decide +kernel
theorem d_M_repair_126 : decode prog_9_method_60_code 126 = .ok (.aload_n 0, 1) := by decide +kernel
theorem d_M_repair_127 : decode prog_9_method_60_code 127 = .ok (.getfield 39, 3) := by decide +kernel
theorem d_M_repair_130 : decode prog_9_method_60_code 130 = .ok (.iload_n 1, 1) := by decide +kernel
theorem d_M_repair_131 : decode prog_9_method_60_code 131 = .ok (.baload, 1) := by decide +kernel
theorem d_M_repair_132 : decode prog_9_method_60_code 132 = .ok (.ifCond .ne 9, 3) := by decide +kernel
theorem d_M_repair_135 : decode prog_9_method_60_code 135 = .ok (.aload_n 0, 1) := by decide +kernel
theorem d_M_repair_136 : decode prog_9_method_60_code 136 = .ok (.iload_n 1, 1) := by decide +kernel
theorem d_M_repair_137 : decode prog_9_method_60_code 137 = .ok (.iconst 0, 1) := by decide +kernel
theorem d_M_repair_138 : decode prog_9_method_60_code 138 = .ok (.invokevirtual 204, 3) := by decide +kernel
theorem d_M_repair_141 : decode prog_9_method_60_code 141 = .ok (.iinc 1 1, 3) := by decide +kernel
theorem d_M_repair_144 : decode prog_9_method_60_code 144 = .ok (.goto (-39), 3) := by decide +kernel
theorem d_M_repair_147 : decode prog_9_method_60_code 147 = .ok (.aload_n 0, 1) := by decide +kernel
theorem d_M_repair_148 : decode prog_9_method_60_code 148 = .ok (.aload_n 0, 1) := by decide +kernel
theorem d_M_repair_149 : decode prog_9_method_60_code 149 = .ok (.getfield 64, 3) := by decide +kernel
theorem d_M_repair_152 : decode prog_9_method_60_code 152 = .ok (.ifCond .eq 7, 3) := by decide +kernel
theorem d_M_repair_155 : decode prog_9_method_60_code 155 = .ok (.iconst 1, 1) := by decide +kernel
theorem d_M_repair_156 : decode prog_9_method_60_code 156 = .ok (.goto 4, 3) := by decide +kernel
theorem d_M_repair_159 : decode prog_9_method_60_code 159 = .ok (.iconst 0, 1) := by decide +kernel
theorem d_M_repair_160 : decode prog_9_method_60_code 160 = .ok (.putfield 57, 3) := by decide +kernel
theorem d_M_repair_163 : decode prog_9_method_60_code 163 = .ok (.aload_n 0, 1) := by decide +kernel
theorem d_M_repair_164 : decode prog_9_method_60_code 164 = .ok (.aload_n 0, 1) := by decide +kernel
theorem d_M_repair_165 : decode prog_9_method_60_code 165 = .ok (.getfield 141, 3) := by decide +kernel
theorem d_M_repair_168 : decode prog_9_method_60_code 168 = .ok (.ifCond .eq 14, 3) := by decide +kernel
theorem d_M_repair_171 : decode prog_9_method_60_code 171 = .ok (.aload_n 0, 1) := by decide +kernel
theorem d_M_repair_172 : decode prog_9_method_60_code 172 = .ok (.getfield 64, 3) := by decide +kernel
theorem d_M_repair_175 : decode prog_9_method_60_code 175 = .ok (.ifCond .eq 7, 3) := by decide +kernel
theorem d_M_repair_178 : decode prog_9_method_60_code 178 = .ok (.iconst 1, 1) := by decide +kernel
theorem d_M_repair_179 : decode prog_9_method_60_code 179 = .ok (.goto 4, 3) := by decide +kernel
theorem d_M_repair_182 : decode prog_9_method_60_code 182 = .ok (.iconst 0, 1) := by decide +kernel
theorem d_M_repair_183 : decode prog_9_method_60_code 183 = .ok (.putfield 141, 3) := by decide +kernel
theorem d_M_repair_186 : decode prog_9_method_60_code 186 = .ok (.aload_n 0, 1) := by decide +kernel
theorem d_M_repair_187 : decode prog_9_method_60_code 187 = .ok (.getfield 64, 3) := by decide +kernel
theorem d_M_repair_190 : decode prog_9_method_60_code 190 = .ok (.ifCond .eq 7, 3) := by decide +kernel
theorem d_M_repair_193 : decode prog_9_method_60_code 193 = .ok (.iconst 0, 1) := by decide +kernel
theorem d_M_repair_194 : decode prog_9_method_60_code 194 = .ok (.goto 7, 3) := by decide +kernel
theorem d_M_repair_197 : decode prog_9_method_60_code 197 = .ok (.aload_n 0, 1) := by decide +kernel
theorem d_M_repair_198 : decode prog_9_method_60_code 198 = .ok (.getfield 200, 3) := by decide +kernel
theorem d_M_repair_201 : decode prog_9_method_60_code 201 = .ok (.ireturn, 1) := by decide +kernel
theorem d_M_octet_0 : decode prog_9_method_61_code 0 = .ok (.aload_n 0, 1) := by decide +kernel
theorem d_M_octet_1 : decode prog_9_method_61_code 1 = .ok (.iconst 0, 1) := by decide +kernel
theorem d_M_octet_2 : decode prog_9_method_61_code 2 = .ok (.putfield 57, 3) := by decide +kernel
theorem d_M_octet_5 : decode prog_9_method_61_code 5 = .ok (.iload_n 1, 1) := by decide +kernel
theorem d_M_octet_6 : decode prog_9_method_61_code 6 = .ok (.iconst 0, 1) := by decide +kernel
theorem d_M_octet_7 : decode prog_9_method_61_code 7 = .ok (.bipush 69, 2) := by decide +kernel
theorem d_M_octet_9 : decode prog_9_method_61_code 9 = .ok (.invokestatic 86, 3) := by decide +kernel
theorem d_M_octet_12 : decode prog_9_method_61_code 12 = .ok (.ifCond .eq 27, 3) := by decide +kernel
theorem d_M_octet_15 : decode prog_9_method_61_code 15 = .ok (.iload_n 2, 1) := by decide +kernel
theorem d_M_octet_16 : decode prog_9_method_61_code 16 = .ok (.iconst 0, 1) := by decide +kernel
theorem d_M_octet_17 : decode prog_9_method_61_code 17 = .ok (.bipush 31, 2) := by decide +kernel
theorem d_M_octet_19 : decode prog_9_method_61_code 19 = .ok (.invokestatic 86, 3) := by decide +kernel
theorem d_M_octet_22 : decode prog_9_method_61_code 22 = .ok (.ifCond .eq 17, 3) := by decide +kernel
theorem d_M_octet_25 : decode prog_9_method_61_code 25 = .ok (.aload_n 0, 1) := by decide +kernel
theorem d_M_octet_26 : decode prog_9_method_61_code 26 = .ok (.getfield 7, 3) := by decide +kernel
theorem d_M_octet_29 : decode prog_9_method_61_code 29 = .ok (.bipush 32, 2) := by decide +kernel
theorem d_M_octet_31 : decode prog_9_method_61_code 31 = .ok (.iload_n 1, 1) := by decide +kernel
theorem d_M_octet_32 : decode prog_9_method_61_code 32 = .ok (.imul, 1) := by decide +kernel
theorem d_M_octet_33 : decode prog_9_method_61_code 33 = .ok (.iload_n 2, 1) := by decide +kernel
theorem d_M_octet_34 : decode prog_9_method_61_code 34 = .ok (.iadd, 1) := by decide +kernel
theorem d_M_octet_35 : decode prog_9_method_61_code 35 = .ok (.iaload, 1) := by decide +kernel
theorem d_M_octet_36 : decode prog_9_method_61_code 36 = .ok (.goto 4, 3) := by decide +kernel
theorem d_M_octet_39 : decode prog_9_method_61_code 39 = .ok (.iconst (-1), 1) := by decide +kernel
theorem d_M_octet_40 : decode prog_9_method_61_code 40 = .ok (.ireturn, 1) := by decide +kernel
theorem d_M_poke_0 : decode prog_9_method_62_code 0 = .ok (.aload_n 0, 1) := by decide +kernel
theorem d_M_poke_1 : decode prog_9_method_62_code 1 = .ok (.iconst 0, 1) := by decide +kernel
theorem d_M_poke_2 : decode prog_9_method_62_code 2 = .ok (.putfield 57, 3) := by decide +kernel
theorem d_M_poke_5 : decode prog_9_method_62_code 5 = .ok (.iload_n 1, 1) := by decide +kernel
theorem d_M_poke_6 : decode prog_9_method_62_code 6 = .ok (.iconst 0, 1) := by decide +kernel
theorem d_M_poke_7 : decode prog_9_method_62_code 7 = .ok (.bipush 69, 2) := by decide +kernel
theorem d_M_poke_9 : decode prog_9_method_62_code 9 = .ok (.invokestatic 86, 3) := by decide +kernel
theorem d_M_poke_12 : decode prog_9_method_62_code 12 = .ok (.ifCond .eq 13, 3) := by decide +kernel
theorem d_M_poke_15 : decode prog_9_method_62_code 15 = .ok (.iload_n 2, 1) := by decide +kernel
theorem d_M_poke_16 : decode prog_9_method_62_code 16 = .ok (.iconst 0, 1) := by decide +kernel
theorem d_M_poke_17 : decode prog_9_method_62_code 17 = .ok (.bipush 31, 2) := by decide +kernel
theorem d_M_poke_19 : decode prog_9_method_62_code 19 = .ok (.invokestatic 86, 3) := by decide +kernel
theorem d_M_poke_22 : decode prog_9_method_62_code 22 = .ok (.ifCond .ne 5, 3) := by decide +kernel
theorem d_M_poke_25 : decode prog_9_method_62_code 25 = .ok (.iconst 0, 1) := by decide +kernel
theorem d_M_poke_26 : decode prog_9_method_62_code 26 = .ok (.ireturn, 1) := by decide +kernel
theorem d_M_poke_27 : decode prog_9_method_62_code 27 = .ok (.aload_n 0, 1) := by decide +kernel
theorem d_M_poke_28 : decode prog_9_method_62_code 28 = .ok (.getfield 7, 3) := by decide +kernel
theorem d_M_poke_31 : decode prog_9_method_62_code 31 = .ok (.bipush 32, 2) := by decide +kernel
theorem d_M_poke_33 : decode prog_9_method_62_code 33 = .ok (.iload_n 1, 1) := by decide +kernel
theorem d_M_poke_34 : decode prog_9_method_62_code 34 = .ok (.imul, 1) := by decide +kernel
theorem d_M_poke_35 : decode prog_9_method_62_code 35 = .ok (.iload_n 2, 1) := by decide +kernel
theorem d_M_poke_36 : decode prog_9_method_62_code 36 = .ok (.iadd, 1) := by decide +kernel
theorem d_M_poke_37 : decode prog_9_method_62_code 37 = .ok (.iload_n 3, 1) := by decide +kernel
theorem d_M_poke_38 : decode prog_9_method_62_code 38 = .ok (.sipush 255, 3) := by decide +kernel
theorem d_M_poke_41 : decode prog_9_method_62_code 41 = .ok (.iand, 1) := by decide +kernel
theorem d_M_poke_42 : decode prog_9_method_62_code 42 = .ok (.iastore, 1) := by decide +kernel
theorem d_M_poke_43 : decode prog_9_method_62_code 43 = .ok (.aload_n 0, 1) := by decide +kernel
theorem d_M_poke_44 : decode prog_9_method_62_code 44 = .ok (.iconst 1, 1) := by decide +kernel
theorem d_M_poke_45 : decode prog_9_method_62_code 45 = .ok (.putfield 141, 3) := by decide +kernel
theorem d_M_poke_48 : decode prog_9_method_62_code 48 = .ok (.aload_n 0, 1) := by decide +kernel
theorem d_M_poke_49 : decode prog_9_method_62_code 49 = .ok (.invokevirtual 70, 3) := by decide +kernel
theorem d_M_poke_52 : decode prog_9_method_62_code 52 = .ok (.iconst 1, 1) := by decide +kernel
theorem d_M_poke_53 : decode prog_9_method_62_code 53 = .ok (.ireturn, 1) := by decide +kernel
theorem d_M_look_0 : decode prog_9_method_63_code 0 = .ok (.aload_n 0, 1) := by decide +kernel
theorem d_M_look_1 : decode prog_9_method_63_code 1 = .ok (.iconst 0, 1) := by decide +kernel
theorem d_M_look_2 : decode prog_9_method_63_code 2 = .ok (.putfield 57, 3) := by decide +kernel
theorem d_M_look_5 : decode prog_9_method_63_code 5 = .ok (.iload_n 1, 1) := by decide +kernel
theorem d_M_look_6 : decode prog_9_method_63_code 6 = .ok (.bipush 10, 2) := by decide +kernel
theorem d_M_look_8 : decode prog_9_method_63_code 8 = .ok (.bipush 13, 2) := by decide +kernel
theorem d_M_look_10 : decode prog_9_method_63_code 10 = .ok (.invokestatic 86, 3) := by decide +kernel
theorem d_M_look_13 : decode prog_9_method_63_code 13 = .ok (.ifCond .eq 28, 3) := by decide +kernel
theorem d_M_look_16 : decode prog_9_method_63_code 16 = .ok (.aload_n 0, 1) := by decide +kernel
theorem d_M_look_17 : decode prog_9_method_63_code 17 = .ok (.iload_n 1, 1) := by decide +kernel
theorem d_M_look_18 : decode prog_9_method_63_code 18 = .ok (.bipush 10, 2) := by decide +kernel
theorem d_M_look_20 : decode prog_9_method_63_code 20 = .ok (.isub, 1) := by decide +kernel
theorem d_M_look_21 : decode prog_9_method_63_code 21 = .ok (.invokevirtual 180, 3) := by decide +kernel
theorem d_M_look_24 : decode prog_9_method_63_code 24 = .ok (.ifCond .eq 15, 3) := by decide +kernel
theorem d_M_look_27 : decode prog_9_method_63_code 27 = .ok (.aload_n 0, 1) := by decide +kernel
theorem d_M_look_28 : decode prog_9_method_63_code 28 = .ok (.getfield 33, 3) := by decide +kernel
theorem d_M_look_31 : decode prog_9_method_63_code 31 = .ok (.iload_n 1, 1) := by decide +kernel
theorem d_M_look_32 : decode prog_9_method_63_code 32 = .ok (.bipush 10, 2) := by decide +kernel
theorem d_M_look_34 : decode prog_9_method_63_code 34 = .ok (.isub, 1) := by decide +kernel
theorem d_M_look_35 : decode prog_9_method_63_code 35 = .ok (.iaload, 1) := by decide +kernel
theorem d_M_look_36 : decode prog_9_method_63_code 36 = .ok (.goto 4, 3) := by decide +kernel
theorem d_M_look_39 : decode prog_9_method_63_code 39 = .ok (.iconst (-1), 1) := by decide +kernel
theorem d_M_look_40 : decode prog_9_method_63_code 40 = .ok (.ireturn, 1) := by decide +kernel
theorem d_M_look_41 : decode prog_9_method_63_code 41 = .ok (.iconst 0, 1) := by decide +kernel
theorem d_M_look_42 : decode prog_9_method_63_code 42 = .ok (.istore_n 2, 1) := by decide +kernel
theorem d_M_look_43 : decode prog_9_method_63_code 43 = .ok (.iconst 2, 1) := by decide +kernel
