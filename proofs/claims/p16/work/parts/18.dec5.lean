theorem d_M_isTaken_109 : decode prog_9_method_27_code 109 = .ok (.ireturn, 1) := by decide +kernel
theorem d_M_shorten_0 : decode prog_9_method_28_code 0 = .ok (.aload_n 0, 1) := by decide +kernel
theorem d_M_shorten_1 : decode prog_9_method_28_code 1 = .ok (.getfield 67, 3) := by decide +kernel
theorem d_M_shorten_4 : decode prog_9_method_28_code 4 = .ok (.bipush 7, 2) := by decide +kernel
theorem d_M_shorten_6 : decode prog_9_method_28_code 6 = .ok (.if_icmp .ge 7, 3) := by decide +kernel
theorem d_M_shorten_9 : decode prog_9_method_28_code 9 = .ok (.iconst 1, 1) := by decide +kernel
theorem d_M_shorten_10 : decode prog_9_method_28_code 10 = .ok (.goto 4, 3) := by decide +kernel
theorem d_M_shorten_13 : decode prog_9_method_28_code 13 = .ok (.iconst 0, 1) := by decide +kernel
theorem d_M_shorten_14 : decode prog_9_method_28_code 14 = .ok (.istore_n 1, 1) := by decide +kernel
theorem d_M_shorten_15 : decode prog_9_method_28_code 15 = .ok (.iconst 0, 1) := by decide +kernel
theorem d_M_shorten_16 : decode prog_9_method_28_code 16 = .ok (.istore_n 2, 1) := by decide +kernel
theorem d_M_shorten_17 : decode prog_9_method_28_code 17 = .ok (.iconst 0, 1) := by decide +kernel
theorem d_M_shorten_18 : decode prog_9_method_28_code 18 = .ok (.istore_n 3, 1) := by decide +kernel
theorem d_M_shorten_19 : decode prog_9_method_28_code 19 = .ok (.iload_n 3, 1) := by decide +kernel
theorem d_M_shorten_20 : decode prog_9_method_28_code 20 = .ok (.aload_n 0, 1) := by decide +kernel
theorem d_M_shorten_21 : decode prog_9_method_28_code 21 = .ok (.getfield 67, 3) := by decide +kernel
theorem d_M_shorten_24 : decode prog_9_method_28_code 24 = .ok (.if_icmp .ge 31, 3) := by decide +kernel
theorem d_M_shorten_27 : decode prog_9_method_28_code 27 = .ok (.iload_n 1, 1) := by decide +kernel
theorem d_M_shorten_28 : decode prog_9_method_28_code 28 = .ok (.ifCond .eq 19, 3) := by decide +kernel
theorem d_M_shorten_31 : decode prog_9_method_28_code 31 = .ok (.aload_n 0, 1) := by decide +kernel
theorem d_M_shorten_32 : decode prog_9_method_28_code 32 = .ok (.getfield 21, 3) := by decide +kernel
theorem d_M_shorten_35 : decode prog_9_method_28_code 35 = .ok (.iload_n 3, 1) := by decide +kernel
theorem d_M_shorten_36 : decode prog_9_method_28_code 36 = .ok (.iaload, 1) := by decide +kernel
theorem d_M_shorten_37 : decode prog_9_method_28_code 37 = .ok (.invokestatic 132, 3) := by decide +kernel
theorem d_M_shorten_40 : decode prog_9_method_28_code 40 = .ok (.ifCond .eq 7, 3) := by decide +kernel
theorem d_M_shorten_43 : decode prog_9_method_28_code 43 = .ok (.iconst 1, 1) := by decide +kernel
theorem d_M_shorten_44 : decode prog_9_method_28_code 44 = .ok (.goto 4, 3) := by decide +kernel
theorem d_M_shorten_47 : decode prog_9_method_28_code 47 = .ok (.iconst 0, 1) := by decide +kernel
theorem d_M_shorten_48 : decode prog_9_method_28_code 48 = .ok (.istore_n 1, 1) := by decide +kernel
theorem d_M_shorten_49 : decode prog_9_method_28_code 49 = .ok (.iinc 3 1, 3) := by decide +kernel
theorem d_M_shorten_52 : decode prog_9_method_28_code 52 = .ok (.goto (-33), 3) := by decide +kernel
theorem d_M_shorten_55 : decode prog_9_method_28_code 55 = .ok (.iconst 0, 1) := by decide +kernel
theorem d_M_shorten_56 : decode prog_9_method_28_code 56 = .ok (.istore_n 3, 1) := by decide +kernel
theorem d_M_shorten_57 : decode prog_9_method_28_code 57 = .ok (.iload_n 3, 1) := by decide +kernel
theorem d_M_shorten_58 : decode prog_9_method_28_code 58 = .ok (.bipush 6, 2) := by decide +kernel
theorem d_M_shorten_60 : decode prog_9_method_28_code 60 = .ok (.if_icmp .ge 17, 3) := by decide +kernel
theorem d_M_shorten_63 : decode prog_9_method_28_code 63 = .ok (.aload_n 0, 1) := by decide +kernel
theorem d_M_shorten_64 : decode prog_9_method_28_code 64 = .ok (.getfield 36, 3) := by decide +kernel
theorem d_M_shorten_67 : decode prog_9_method_28_code 67 = .ok (.iload_n 3, 1) := by decide +kernel
theorem d_M_shorten_68 : decode prog_9_method_28_code 68 = .ok (.bipush 32, 2) := by decide +kernel
theorem d_M_shorten_70 : decode prog_9_method_28_code 70 = .ok (.iastore, 1) := by decide +kernel
theorem d_M_shorten_71 : decode prog_9_method_28_code 71 = .ok (.iinc 3 1, 3) := by decide +kernel
theorem d_M_shorten_74 : decode prog_9_method_28_code 74 = .ok (.goto (-17), 3) := by decide +kernel
theorem d_M_shorten_77 : decode prog_9_method_28_code 77 = .ok (.iconst 0, 1) := by decide +kernel
theorem d_M_shorten_78 : decode prog_9_method_28_code 78 = .ok (.istore_n 3, 1) := by decide +kernel
theorem d_M_shorten_79 : decode prog_9_method_28_code 79 = .ok (.iload_n 3, 1) := by decide +kernel
theorem d_M_shorten_80 : decode prog_9_method_28_code 80 = .ok (.aload_n 0, 1) := by decide +kernel
theorem d_M_shorten_81 : decode prog_9_method_28_code 81 = .ok (.getfield 67, 3) := by decide +kernel
theorem d_M_shorten_84 : decode prog_9_method_28_code 84 = .ok (.if_icmp .ge 56, 3) := by decide +kernel
theorem d_M_shorten_87 : decode prog_9_method_28_code 87 = .ok (.aload_n 0, 1) := by decide +kernel
theorem d_M_shorten_88 : decode prog_9_method_28_code 88 = .ok (.getfield 21, 3) := by decide +kernel
theorem d_M_shorten_91 : decode prog_9_method_28_code 91 = .ok (.iload_n 3, 1) := by decide +kernel
theorem d_M_shorten_92 : decode prog_9_method_28_code 92 = .ok (.iaload, 1) := by decide +kernel
theorem d_M_shorten_93 : decode prog_9_method_28_code 93 = .ok (.invokestatic 116, 3) := by decide +kernel
theorem d_M_shorten_96 : decode prog_9_method_28_code 96 = .ok (.invokestatic 132, 3) := by decide +kernel
theorem d_M_shorten_99 : decode prog_9_method_28_code 99 = .ok (.ifCond .eq 35, 3) := by decide +kernel
theorem d_M_shorten_102 : decode prog_9_method_28_code 102 = .ok (.iload_n 2, 1) := by decide +kernel
theorem d_M_shorten_103 : decode prog_9_method_28_code 103 = .ok (.iload_n 1, 1) := by decide +kernel
theorem d_M_shorten_104 : decode prog_9_method_28_code 104 = .ok (.ifCond .eq 8, 3) := by decide +kernel
theorem d_M_shorten_107 : decode prog_9_method_28_code 107 = .ok (.bipush 6, 2) := by decide +kernel
theorem d_M_shorten_109 : decode prog_9_method_28_code 109 = .ok (.goto 4, 3) := by decide +kernel
theorem d_M_shorten_112 : decode prog_9_method_28_code 112 = .ok (.iconst 4, 1) := by decide +kernel
theorem d_M_shorten_113 : decode prog_9_method_28_code 113 = .ok (.if_icmp .ge 21, 3) := by decide +kernel
theorem d_M_shorten_116 : decode prog_9_method_28_code 116 = .ok (.aload_n 0, 1) := by decide +kernel
theorem d_M_shorten_117 : decode prog_9_method_28_code 117 = .ok (.getfield 36, 3) := by decide +kernel
theorem d_M_shorten_120 : decode prog_9_method_28_code 120 = .ok (.iload_n 2, 1) := by decide +kernel
theorem d_M_shorten_121 : decode prog_9_method_28_code 121 = .ok (.aload_n 0, 1) := by decide +kernel
theorem d_M_shorten_122 : decode prog_9_method_28_code 122 = .ok (.getfield 21, 3) := by decide +kernel
theorem d_M_shorten_125 : decode prog_9_method_28_code 125 = .ok (.iload_n 3, 1) := by decide +kernel
theorem d_M_shorten_126 : decode prog_9_method_28_code 126 = .ok (.iaload, 1) := by decide +kernel
theorem d_M_shorten_127 : decode prog_9_method_28_code 127 = .ok (.invokestatic 116, 3) := by decide +kernel
theorem d_M_shorten_130 : decode prog_9_method_28_code 130 = .ok (.iastore, 1) := by decide +kernel
theorem d_M_shorten_131 : decode prog_9_method_28_code 131 = .ok (.iinc 2 1, 3) := by decide +kernel
theorem d_M_shorten_134 : decode prog_9_method_28_code 134 = .ok (.iinc 3 1, 3) := by decide +kernel
theorem d_M_shorten_137 : decode prog_9_method_28_code 137 = .ok (.goto (-58), 3) := by decide +kernel
theorem d_M_shorten_140 : decode prog_9_method_28_code 140 = .ok (.aload_n 0, 1) := by decide +kernel
theorem d_M_shorten_141 : decode prog_9_method_28_code 141 = .ok (.iload_n 1, 1) := by decide +kernel
theorem d_M_shorten_142 : decode prog_9_method_28_code 142 = .ok (.ifCond .eq 7, 3) := by decide +kernel
theorem d_M_shorten_145 : decode prog_9_method_28_code 145 = .ok (.iconst 0, 1) := by decide +kernel
theorem d_M_shorten_146 : decode prog_9_method_28_code 146 = .ok (.goto 17, 3) := by decide +kernel
theorem d_M_shorten_149 : decode prog_9_method_28_code 149 = .ok (.aload_n 0, 1) := by decide +kernel
theorem d_M_shorten_150 : decode prog_9_method_28_code 150 = .ok (.getfield 67, 3) := by decide +kernel
theorem d_M_shorten_153 : decode prog_9_method_28_code 153 = .ok (.bipush 13, 2) := by decide +kernel
theorem d_M_shorten_155 : decode prog_9_method_28_code 155 = .ok (.if_icmp .le 7, 3) := by decide +kernel
theorem d_M_shorten_158 : decode prog_9_method_28_code 158 = .ok (.iconst 2, 1) := by decide +kernel
theorem d_M_shorten_159 : decode prog_9_method_28_code 159 = .ok (.goto 4, 3) := by decide +kernel
theorem d_M_shorten_162 : decode prog_9_method_28_code 162 = .ok (.iconst 1, 1) := by decide +kernel
theorem d_M_shorten_163 : decode prog_9_method_28_code 163 = .ok (.putfield 135, 3) := by decide +kernel
theorem d_M_shorten_166 : decode prog_9_method_28_code 166 = .ok (.iload_n 1, 1) := by decide +kernel
theorem d_M_shorten_167 : decode prog_9_method_28_code 167 = .ok (.ifCond .eq 5, 3) := by decide +kernel
theorem d_M_shorten_170 : decode prog_9_method_28_code 170 = .ok (.iconst 1, 1) := by decide +kernel
theorem d_M_shorten_171 : decode prog_9_method_28_code 171 = .ok (.ireturn, 1) := by decide +kernel
theorem d_M_shorten_172 : decode prog_9_method_28_code 172 = .ok (.aload_n 0, 1) := by decide +kernel
theorem d_M_shorten_173 : decode prog_9_method_28_code 173 = .ok (.getfield 36, 3) := by decide +kernel
theorem d_M_shorten_176 : decode prog_9_method_28_code 176 = .ok (.iload_n 2, 1) := by decide +kernel
theorem d_M_shorten_177 : decode prog_9_method_28_code 177 = .ok (.bipush 126, 2) := by decide +kernel
theorem d_M_shorten_179 : decode prog_9_method_28_code 179 = .ok (.iastore, 1) := by decide +kernel
theorem d_M_shorten_180 : decode prog_9_method_28_code 180 = .ok (.aload_n 0, 1) := by decide +kernel
theorem d_M_shorten_181 : decode prog_9_method_28_code 181 = .ok (.getfield 36, 3) := by decide +kernel
theorem d_M_shorten_184 : decode prog_9_method_28_code 184 = .ok (.iload_n 2, 1) := by decide +kernel
theorem d_M_shorten_185 : decode prog_9_method_28_code 185 = .ok (.iconst 1, 1) := by decide +kernel
theorem d_M_shorten_186 : decode prog_9_method_28_code 186 = .ok (.iadd, 1) := by decide +kernel
theorem d_M_shorten_187 : decode prog_9_method_28_code 187 = .ok (.bipush 49, 2) := by decide +kernel
theorem d_M_shorten_189 : decode prog_9_method_28_code 189 = .ok (.iastore, 1) := by decide +kernel
theorem d_M_shorten_190 : decode prog_9_method_28_code 190 = .ok (.aload_n 0, 1) := by decide +kernel
theorem d_M_shorten_191 : decode prog_9_method_28_code 191 = .ok (.getfield 36, 3) := by decide +kernel
theorem d_M_shorten_194 : decode prog_9_method_28_code 194 = .ok (.iload_n 2, 1) := by decide +kernel
theorem d_M_shorten_195 : decode prog_9_method_28_code 195 = .ok (.iconst 1, 1) := by decide +kernel
theorem d_M_shorten_196 : decode prog_9_method_28_code 196 = .ok (.iadd, 1) := by decide +kernel
theorem d_M_shorten_197 : decode prog_9_method_28_code 197 = .ok (.iaload, 1) := by decide +kernel
theorem d_M_shorten_198 : decode prog_9_method_28_code 198 = .ok (.bipush 57, 2) := by decide +kernel
theorem d_M_shorten_200 : decode prog_9_method_28_code 200 = .ok (.if_icmp .gt 25, 3) := by decide +kernel
theorem d_M_shorten_203 : decode prog_9_method_28_code 203 = .ok (.aload_n 0, 1) := by decide +kernel
theorem d_M_shorten_204 : decode prog_9_method_28_code 204 = .ok (.invokevirtual 138, 3) := by decide +kernel
theorem d_M_shorten_207 : decode prog_9_method_28_code 207 = .ok (.ifCond .eq 18, 3) := by decide +kernel
theorem d_M_shorten_210 : decode prog_9_method_28_code 210 = .ok (.aload_n 0, 1) := by decide +kernel
theorem d_M_shorten_211 : decode prog_9_method_28_code 211 = .ok (.getfield 36, 3) := by decide +kernel
theorem d_M_shorten_214 : decode prog_9_method_28_code 214 = .ok (.iload_n 2, 1) := by decide +kernel
theorem d_M_shorten_215 : decode prog_9_method_28_code 215 = .ok (.iconst 1, 1) := by decide +kernel
theorem d_M_shorten_216 : decode prog_9_method_28_code 216 = .ok (.iadd, 1) := by decide +kernel
theorem d_M_shorten_217 : decode prog_9_method_28_code 217 = .ok (.dup2, 1) := by decide +kernel
theorem d_M_shorten_218 : decode prog_9_method_28_code 218 = .ok (.iaload, 1) := by decide +kernel
theorem d_M_shorten_219 : decode prog_9_method_28_code 219 = .ok (.iconst 1, 1) := by decide +kernel
theorem d_M_shorten_220 : decode prog_9_method_28_code 220 = .ok (.iadd, 1) := by decide +kernel
theorem d_M_shorten_221 : decode prog_9_method_28_code 221 = .ok (.iastore, 1) := by decide +kernel
theorem d_M_shorten_222 : decode prog_9_method_28_code 222 = .ok (.goto (-32), 3) := by decide +kernel
theorem d_M_shorten_225 : decode prog_9_method_28_code 225 = .ok (.aload_n 0, 1) := by decide +kernel
theorem d_M_shorten_226 : decode prog_9_method_28_code 226 = .ok (.getfield 36, 3) := by decide +kernel
theorem d_M_shorten_229 : decode prog_9_method_28_code 229 = .ok (.iload_n 2, 1) := by decide +kernel
theorem d_M_shorten_230 : decode prog_9_method_28_code 230 = .ok (.iconst 1, 1) := by decide +kernel
theorem d_M_shorten_231 : decode prog_9_method_28_code 231 = .ok (.iadd, 1) := by decide +kernel
theorem d_M_shorten_232 : decode prog_9_method_28_code 232 = .ok (.iaload, 1) := by decide +kernel
theorem d_M_shorten_233 : decode prog_9_method_28_code 233 = .ok (.bipush 57, 2) := by decide +kernel
theorem d_M_shorten_235 : decode prog_9_method_28_code 235 = .ok (.if_icmp .gt 7, 3) := by decide +kernel
theorem d_M_shorten_238 : decode prog_9_method_28_code 238 = .ok (.iconst 1, 1) := by decide +kernel
theorem d_M_shorten_239 : decode prog_9_method_28_code 239 = .ok (.goto 4, 3) := by decide +kernel
theorem d_M_shorten_242 : decode prog_9_method_28_code 242 = .ok (.iconst 0, 1) := by decide +kernel
theorem d_M_shorten_243 : decode prog_9_method_28_code 243 = .ok (.ireturn, 1) := by decide +kernel
theorem d_M_home_0 : decode prog_9_method_29_code 0 = .ok (.aload_n 0, 1) := by decide +kernel
theorem d_M_home_1 : decode prog_9_method_29_code 1 = .ok (.iconst 2, 1) := by decide +kernel
theorem d_M_home_2 : decode prog_9_method_29_code 2 = .ok (.putfield 24, 3) := by decide +kernel
theorem d_M_home_5 : decode prog_9_method_29_code 5 = .ok (.aload_n 0, 1) := by decide +kernel
theorem d_M_home_6 : decode prog_9_method_29_code 6 = .ok (.iconst 1, 1) := by decide +kernel
theorem d_M_home_7 : decode prog_9_method_29_code 7 = .ok (.putfield 27, 3) := by decide +kernel
theorem d_M_home_10 : decode prog_9_method_29_code 10 = .ok (.iconst 0, 1) := by decide +kernel
theorem d_M_home_11 : decode prog_9_method_29_code 11 = .ok (.istore_n 1, 1) := by decide +kernel
theorem d_M_home_12 : decode prog_9_method_29_code 12 = .ok (.iload_n 1, 1) := by decide +kernel
theorem d_M_home_13 : decode prog_9_method_29_code 13 = .ok (.iconst 4, 1) := by decide +kernel
theorem d_M_home_14 : decode prog_9_method_29_code 14 = .ok (.if_icmp .ge 16, 3) := by decide +kernel
theorem d_M_home_17 : decode prog_9_method_29_code 17 = .ok (.aload_n 0, 1) := by decide +kernel
theorem d_M_home_18 : decode prog_9_method_29_code 18 = .ok (.getfield 30, 3) := by decide +kernel
theorem d_M_home_21 : decode prog_9_method_29_code 21 = .ok (.iload_n 1, 1) := by decide +kernel
theorem d_M_home_22 : decode prog_9_method_29_code 22 = .ok (.iconst 0, 1) := by decide +kernel
theorem d_M_home_23 : decode prog_9_method_29_code 23 = .ok (.iastore, 1) := by decide +kernel
theorem d_M_home_24 : decode prog_9_method_29_code 24 = .ok (.iinc 1 1, 3) := by decide +kernel
theorem d_M_home_27 : decode prog_9_method_29_code 27 = .ok (.goto (-15), 3) := by decide +kernel
theorem d_M_home_30 : decode prog_9_method_29_code 30 = .ok (.return_, 1) := by decide +kernel
theorem d_M_door_0 : decode prog_9_method_7_code 0 = .ok (.aload_n 0, 1) := by decide +kernel
theorem d_M_door_1 : decode prog_9_method_7_code 1 = .ok (.getfield 64, 3) := by decide +kernel
theorem d_M_door_4 : decode prog_9_method_7_code 4 = .ok (.ifCond .eq 5, 3) := by decide +kernel
theorem d_M_door_7 : decode prog_9_method_7_code 7 = .ok (.iconst 0, 1) := by decide +kernel
theorem d_M_door_8 : decode prog_9_method_7_code 8 = .ok (.ireturn, 1) := by decide +kernel
theorem d_M_door_9 : decode prog_9_method_7_code 9 = .ok (.aload_n 0, 1) := by decide +kernel
theorem d_M_door_10 : decode prog_9_method_7_code 10 = .ok (.getfield 17, 3) := by decide +kernel
theorem d_M_door_13 : decode prog_9_method_7_code 13 = .ok (.ifCond .ne 29, 3) := by decide +kernel
theorem d_M_door_16 : decode prog_9_method_7_code 16 = .ok (.aload_n 0, 1) := by decide +kernel
theorem d_M_door_17 : decode prog_9_method_7_code 17 = .ok (.iconst 1, 1) := by decide +kernel
theorem d_M_door_18 : decode prog_9_method_7_code 18 = .ok (.putfield 64, 3) := by decide +kernel
theorem d_M_door_21 : decode prog_9_method_7_code 21 = .ok (.aload_n 0, 1) := by decide +kernel
theorem d_M_door_22 : decode prog_9_method_7_code 22 = .ok (.iconst 0, 1) := by decide +kernel
theorem d_M_door_23 : decode prog_9_method_7_code 23 = .ok (.putfield 13, 3) := by decide +kernel
theorem d_M_door_26 : decode prog_9_method_7_code 26 = .ok (.aload_n 0, 1) := by decide +kernel
theorem d_M_door_27 : decode prog_9_method_7_code 27 = .ok (.iconst (-1), 1) := by decide +kernel
theorem d_M_door_28 : decode prog_9_method_7_code 28 = .ok (.putfield 17, 3) := by decide +kernel
theorem d_M_door_31 : decode prog_9_method_7_code 31 = .ok (.aload_n 0, 1) := by decide +kernel
theorem d_M_door_32 : decode prog_9_method_7_code 32 = .ok (.iconst 0, 1) := by decide +kernel
theorem d_M_door_33 : decode prog_9_method_7_code 33 = .ok (.putfield 67, 3) := by decide +kernel
theorem d_M_door_36 : decode prog_9_method_7_code 36 = .ok (.aload_n 0, 1) := by decide +kernel
theorem d_M_door_37 : decode prog_9_method_7_code 37 = .ok (.invokevirtual 70, 3) := by decide +kernel
theorem d_M_door_40 : decode prog_9_method_7_code 40 = .ok (.iconst 0, 1) := by decide +kernel
theorem d_M_door_41 : decode prog_9_method_7_code 41 = .ok (.ireturn, 1) := by decide +kernel
theorem d_M_door_42 : decode prog_9_method_7_code 42 = .ok (.aload_n 0, 1) := by decide +kernel
theorem d_M_door_43 : decode prog_9_method_7_code 43 = .ok (.aload_n 0, 1) := by decide +kernel
theorem d_M_door_44 : decode prog_9_method_7_code 44 = .ok (.getfield 17, 3) := by decide +kernel
theorem d_M_door_47 : decode prog_9_method_7_code 47 = .ok (.ifCond .le 12, 3) := by decide +kernel
theorem d_M_door_50 : decode prog_9_method_7_code 50 = .ok (.aload_n 0, 1) := by decide +kernel
theorem d_M_door_51 : decode prog_9_method_7_code 51 = .ok (.getfield 17, 3) := by decide +kernel
theorem d_M_door_54 : decode prog_9_method_7_code 54 = .ok (.iconst 1, 1) := by decide +kernel
theorem d_M_door_55 : decode prog_9_method_7_code 55 = .ok (.isub, 1) := by decide +kernel
theorem d_M_door_56 : decode prog_9_method_7_code 56 = .ok (.goto 7, 3) := by decide +kernel
theorem d_M_door_59 : decode prog_9_method_7_code 59 = .ok (.aload_n 0, 1) := by decide +kernel
theorem d_M_door_60 : decode prog_9_method_7_code 60 = .ok (.getfield 17, 3) := by decide +kernel
theorem d_M_door_63 : decode prog_9_method_7_code 63 = .ok (.putfield 17, 3) := by decide +kernel
theorem d_M_door_66 : decode prog_9_method_7_code 66 = .ok (.aload_n 0, 1) := by decide +kernel
theorem d_M_door_67 : decode prog_9_method_7_code 67 = .ok (.dup, 1) := by decide +kernel
theorem d_M_door_68 : decode prog_9_method_7_code 68 = .ok (.getfield 73, 3) := by decide +kernel
theorem d_M_door_71 : decode prog_9_method_7_code 71 = .ok (.iconst 1, 1) := by decide +kernel
theorem d_M_door_72 : decode prog_9_method_7_code 72 = .ok (.iadd, 1) := by decide +kernel
theorem d_M_door_73 : decode prog_9_method_7_code 73 = .ok (.putfield 73, 3) := by decide +kernel
theorem d_M_door_76 : decode prog_9_method_7_code 76 = .ok (.iconst 1, 1) := by decide +kernel
theorem d_M_door_77 : decode prog_9_method_7_code 77 = .ok (.ireturn, 1) := by decide +kernel
theorem d_M_number_0 : decode prog_9_method_4_code 0 = .ok (.aload_n 0, 1) := by decide +kernel
theorem d_M_number_1 : decode prog_9_method_4_code 1 = .ok (.getfield 7, 3) := by decide +kernel
theorem d_M_number_4 : decode prog_9_method_4_code 4 = .ok (.iload_n 1, 1) := by decide +kernel
theorem d_M_number_5 : decode prog_9_method_4_code 5 = .ok (.iload_n 2, 1) := by decide +kernel
theorem d_M_number_6 : decode prog_9_method_4_code 6 = .ok (.sipush 255, 3) := by decide +kernel
theorem d_M_number_9 : decode prog_9_method_4_code 9 = .ok (.iand, 1) := by decide +kernel
theorem d_M_number_10 : decode prog_9_method_4_code 10 = .ok (.iastore, 1) := by decide +kernel
theorem d_M_number_11 : decode prog_9_method_4_code 11 = .ok (.aload_n 0, 1) := by decide +kernel
theorem d_M_number_12 : decode prog_9_method_4_code 12 = .ok (.getfield 7, 3) := by decide +kernel
theorem d_M_number_15 : decode prog_9_method_4_code 15 = .ok (.iload_n 1, 1) := by decide +kernel
theorem d_M_number_16 : decode prog_9_method_4_code 16 = .ok (.iconst 1, 1) := by decide +kernel
theorem d_M_number_17 : decode prog_9_method_4_code 17 = .ok (.iadd, 1) := by decide +kernel
theorem d_M_number_18 : decode prog_9_method_4_code 18 = .ok (.iload_n 2, 1) := by decide +kernel
theorem d_M_number_19 : decode prog_9_method_4_code 19 = .ok (.bipush 8, 2) := by decide +kernel
theorem d_M_number_21 : decode prog_9_method_4_code 21 = .ok (.ishr, 1) := by decide +kernel
theorem d_M_number_22 : decode prog_9_method_4_code 22 = .ok (.sipush 255, 3) := by decide +kernel
theorem d_M_number_25 : decode prog_9_method_4_code 25 = .ok (.iand, 1) := by decide +kernel
theorem d_M_number_26 : decode prog_9_method_4_code 26 = .ok (.iastore, 1) := by decide +kernel
theorem d_M_number_27 : decode prog_9_method_4_code 27 = .ok (.return_, 1) := by decide +kernel
theorem d_M_set_0 : decode prog_9_method_8_code 0 = .ok (.aload_n 0, 1) := by decide +kernel
theorem d_M_set_1 : decode prog_9_method_8_code 1 = .ok (.invokevirtual 76, 3) := by decide +kernel
theorem d_M_set_4 : decode prog_9_method_8_code 4 = .ok (.ifCond .eq 11, 3) := by decide +kernel
theorem d_M_set_7 : decode prog_9_method_8_code 7 = .ok (.aload_n 0, 1) := by decide +kernel
theorem d_M_set_8 : decode prog_9_method_8_code 8 = .ok (.iconst 2, 1) := by decide +kernel
theorem d_M_set_9 : decode prog_9_method_8_code 9 = .ok (.iload_n 1, 1) := by decide +kernel
theorem d_M_set_10 : decode prog_9_method_8_code 10 = .ok (.imul, 1) := by decide +kernel
theorem d_M_set_11 : decode prog_9_method_8_code 11 = .ok (.iload_n 2, 1) := by decide +kernel
theorem d_M_set_12 : decode prog_9_method_8_code 12 = .ok (.invokevirtual 53, 3) := by decide +kernel
theorem d_M_set_15 : decode prog_9_method_8_code 15 = .ok (.aload_n 0, 1) := by decide +kernel
theorem d_M_set_16 : decode prog_9_method_8_code 16 = .ok (.invokevirtual 76, 3) := by decide +kernel
theorem d_M_set_19 : decode prog_9_method_8_code 19 = .ok (.ifCond .eq 15, 3) := by decide +kernel
theorem d_M_set_22 : decode prog_9_method_8_code 22 = .ok (.aload_n 0, 1) := by decide +kernel
theorem d_M_set_23 : decode prog_9_method_8_code 23 = .ok (.sipush 128, 3) := by decide +kernel
theorem d_M_set_26 : decode prog_9_method_8_code 26 = .ok (.iconst 2, 1) := by decide +kernel
theorem d_M_set_27 : decode prog_9_method_8_code 27 = .ok (.iload_n 1, 1) := by decide +kernel
theorem d_M_set_28 : decode prog_9_method_8_code 28 = .ok (.imul, 1) := by decide +kernel
theorem d_M_set_29 : decode prog_9_method_8_code 29 = .ok (.iadd, 1) := by decide +kernel
theorem d_M_set_30 : decode prog_9_method_8_code 30 = .ok (.iload_n 2, 1) := by decide +kernel
theorem d_M_set_31 : decode prog_9_method_8_code 31 = .ok (.invokevirtual 53, 3) := by decide +kernel
theorem d_M_set_34 : decode prog_9_method_8_code 34 = .ok (.return_, 1) := by decide +kernel
theorem d_M_take_0 : decode prog_9_method_11_code 0 = .ok (.iconst 2, 1) := by decide +kernel
theorem d_M_take_1 : decode prog_9_method_11_code 1 = .ok (.istore_n 1, 1) := by decide +kernel
theorem d_M_take_2 : decode prog_9_method_11_code 2 = .ok (.iload_n 1, 1) := by decide +kernel
theorem d_M_take_3 : decode prog_9_method_11_code 3 = .ok (.bipush 64, 2) := by decide +kernel
theorem d_M_take_5 : decode prog_9_method_11_code 5 = .ok (.if_icmp .ge 17, 3) := by decide +kernel
theorem d_M_take_8 : decode prog_9_method_11_code 8 = .ok (.aload_n 0, 1) := by decide +kernel
theorem d_M_take_9 : decode prog_9_method_11_code 9 = .ok (.iload_n 1, 1) := by decide +kernel
theorem d_M_take_10 : decode prog_9_method_11_code 10 = .ok (.invokevirtual 80, 3) := by decide +kernel
theorem d_M_take_13 : decode prog_9_method_11_code 13 = .ok (.ifCond .eq 9, 3) := by decide +kernel
theorem d_M_take_16 : decode prog_9_method_11_code 16 = .ok (.iinc 1 1, 3) := by decide +kernel
theorem d_M_take_19 : decode prog_9_method_11_code 19 = .ok (.goto (-17), 3) := by decide +kernel
theorem d_M_take_22 : decode prog_9_method_11_code 22 = .ok (.iload_n 1, 1) := by decide +kernel
theorem d_M_take_23 : decode prog_9_method_11_code 23 = .ok (.bipush 64, 2) := by decide +kernel
theorem d_M_take_25 : decode prog_9_method_11_code 25 = .ok (.if_icmp .ne 5, 3) := by decide +kernel
theorem d_M_take_28 : decode prog_9_method_11_code 28 = .ok (.iconst 0, 1) := by decide +kernel
theorem d_M_take_29 : decode prog_9_method_11_code 29 = .ok (.ireturn, 1) := by decide +kernel
theorem d_M_take_30 : decode prog_9_method_11_code 30 = .ok (.aload_n 0, 1) := by decide +kernel
theorem d_M_take_31 : decode prog_9_method_11_code 31 = .ok (.iload_n 1, 1) := by decide +kernel
theorem d_M_take_32 : decode prog_9_method_11_code 32 = .ok (.ldc 52, 2) := by decide +kernel
theorem d_M_take_34 : decode prog_9_method_11_code 34 = .ok (.invokevirtual 83, 3) := by decide +kernel
theorem d_M_take_37 : decode prog_9_method_11_code 37 = .ok (.aload_n 0, 1) := by decide +kernel
theorem d_M_take_38 : decode prog_9_method_11_code 38 = .ok (.invokevirtual 76, 3) := by decide +kernel
theorem d_M_take_41 : decode prog_9_method_11_code 41 = .ok (.ifCond .eq 32, 3) := by decide +kernel
theorem d_M_take_44 : decode prog_9_method_11_code 44 = .ok (.iconst 0, 1) := by decide +kernel
theorem d_M_take_45 : decode prog_9_method_11_code 45 = .ok (.istore_n 2, 1) := by decide +kernel
theorem d_M_take_46 : decode prog_9_method_11_code 46 = .ok (.iload_n 2, 1) := by decide +kernel
theorem d_M_take_47 : decode prog_9_method_11_code 47 = .ok (.bipush 32, 2) := by decide +kernel
theorem d_M_take_49 : decode prog_9_method_11_code 49 = .ok (.if_icmp .ge 24, 3) := by decide +kernel
theorem d_M_take_52 : decode prog_9_method_11_code 52 = .ok (.aload_n 0, 1) := by decide +kernel
theorem d_M_take_53 : decode prog_9_method_11_code 53 = .ok (.getfield 7, 3) := by decide +kernel
theorem d_M_take_56 : decode prog_9_method_11_code 56 = .ok (.bipush 32, 2) := by decide +kernel
theorem d_M_take_58 : decode prog_9_method_11_code 58 = .ok (.iload_n 1, 1) := by decide +kernel
theorem d_M_take_59 : decode prog_9_method_11_code 59 = .ok (.bipush 6, 2) := by decide +kernel
theorem d_M_take_61 : decode prog_9_method_11_code 61 = .ok (.iadd, 1) := by decide +kernel
theorem d_M_take_62 : decode prog_9_method_11_code 62 = .ok (.imul, 1) := by decide +kernel
theorem d_M_take_63 : decode prog_9_method_11_code 63 = .ok (.iload_n 2, 1) := by decide +kernel
theorem d_M_take_64 : decode prog_9_method_11_code 64 = .ok (.iadd, 1) := by decide +kernel
theorem d_M_take_65 : decode prog_9_method_11_code 65 = .ok (.iconst 0, 1) := by decide +kernel
theorem d_M_take_66 : decode prog_9_method_11_code 66 = .ok (.iastore, 1) := by decide +kernel
theorem d_M_take_67 : decode prog_9_method_11_code 67 = .ok (.iinc 2 1, 3) := by decide +kernel
theorem d_M_take_70 : decode prog_9_method_11_code 70 = .ok (.goto (-24), 3) := by decide +kernel
theorem d_M_take_73 : decode prog_9_method_11_code 73 = .ok (.iload_n 1, 1) := by decide +kernel
theorem d_M_take_74 : decode prog_9_method_11_code 74 = .ok (.ireturn, 1) := by decide +kernel
theorem d_M_space_0 : decode prog_9_method_32_code 0 = .ok (.iconst 2, 1) := by decide +kernel
theorem d_M_space_1 : decode prog_9_method_32_code 1 = .ok (.aload_n 0, 1) := by decide +kernel
theorem d_M_space_2 : decode prog_9_method_32_code 2 = .ok (.aload_n 0, 1) := by decide +kernel
theorem d_M_space_3 : decode prog_9_method_32_code 3 = .ok (.getfield 24, 3) := by decide +kernel
theorem d_M_space_6 : decode prog_9_method_32_code 6 = .ok (.invokevirtual 126, 3) := by decide +kernel
theorem d_M_space_9 : decode prog_9_method_32_code 9 = .ok (.imul, 1) := by decide +kernel
theorem d_M_space_10 : decode prog_9_method_32_code 10 = .ok (.istore_n 2, 1) := by decide +kernel
theorem d_M_space_11 : decode prog_9_method_32_code 11 = .ok (.iconst 0, 1) := by decide +kernel
theorem d_M_space_12 : decode prog_9_method_32_code 12 = .ok (.istore_n 3, 1) := by decide +kernel
theorem d_M_space_13 : decode prog_9_method_32_code 13 = .ok (.iload_n 3, 1) := by decide +kernel
theorem d_M_space_14 : decode prog_9_method_32_code 14 = .ok (.iload_n 1, 1) := by decide +kernel
theorem d_M_space_15 : decode prog_9_method_32_code 15 = .ok (.iadd, 1) := by decide +kernel
theorem d_M_space_16 : decode prog_9_method_32_code 16 = .ok (.iload_n 2, 1) := by decide +kernel
theorem d_M_space_17 : decode prog_9_method_32_code 17 = .ok (.if_icmp .gt 65, 3) := by decide +kernel
theorem d_M_space_20 : decode prog_9_method_32_code 20 = .ok (.iconst 1, 1) := by decide +kernel
theorem d_M_space_21 : decode prog_9_method_32_code 21 = .ok (.istore 4, 2) := by decide +kernel
theorem d_M_space_23 : decode prog_9_method_32_code 23 = .ok (.iconst 0, 1) := by decide +kernel
theorem d_M_space_24 : decode prog_9_method_32_code 24 = .ok (.istore 5, 2) := by decide +kernel
theorem d_M_space_26 : decode prog_9_method_32_code 26 = .ok (.iload 5, 2) := by decide +kernel
theorem d_M_space_28 : decode prog_9_method_32_code 28 = .ok (.iload_n 1, 1) := by decide +kernel
theorem d_M_space_29 : decode prog_9_method_32_code 29 = .ok (.if_icmp .ge 40, 3) := by decide +kernel
theorem d_M_space_32 : decode prog_9_method_32_code 32 = .ok (.iload 4, 2) := by decide +kernel
theorem d_M_space_34 : decode prog_9_method_32_code 34 = .ok (.ifCond .eq 26, 3) := by decide +kernel
theorem d_M_space_37 : decode prog_9_method_32_code 37 = .ok (.aload_n 0, 1) := by decide +kernel
theorem d_M_space_38 : decode prog_9_method_32_code 38 = .ok (.aload_n 0, 1) := by decide +kernel
theorem d_M_space_39 : decode prog_9_method_32_code 39 = .ok (.aload_n 0, 1) := by decide +kernel
theorem d_M_space_40 : decode prog_9_method_32_code 40 = .ok (.getfield 24, 3) := by decide +kernel
theorem d_M_space_43 : decode prog_9_method_32_code 43 = .ok (.iload_n 3, 1) := by decide +kernel
theorem d_M_space_44 : decode prog_9_method_32_code 44 = .ok (.iload 5, 2) := by decide +kernel
theorem d_M_space_46 : decode prog_9_method_32_code 46 = .ok (.iadd, 1) := by decide +kernel
theorem d_M_space_47 : decode prog_9_method_32_code 47 = .ok (.invokevirtual 98, 3) := by decide +kernel
theorem d_M_space_50 : decode prog_9_method_32_code 50 = .ok (.invokevirtual 94, 3) := by decide +kernel
theorem d_M_space_53 : decode prog_9_method_32_code 53 = .ok (.ifCond .eq 7, 3) := by decide +kernel
theorem d_M_space_56 : decode prog_9_method_32_code 56 = .ok (.iconst 1, 1) := by decide +kernel
theorem d_M_space_57 : decode prog_9_method_32_code 57 = .ok (.goto 4, 3) := by decide +kernel
theorem d_M_space_60 : decode prog_9_method_32_code 60 = .ok (.iconst 0, 1) := by decide +kernel
theorem d_M_space_61 : decode prog_9_method_32_code 61 = .ok (.istore 4, 2) := by decide +kernel
theorem d_M_space_63 : decode prog_9_method_32_code 63 = .ok (.iinc 5 1, 3) := by decide +kernel
theorem d_M_space_66 : decode prog_9_method_32_code 66 = .ok (.goto (-40), 3) := by decide +kernel
theorem d_M_space_69 : decode prog_9_method_32_code 69 = .ok (.iload 4, 2) := by decide +kernel
theorem d_M_space_71 : decode prog_9_method_32_code 71 = .ok (.ifCond .eq 5, 3) := by decide +kernel
theorem d_M_space_74 : decode prog_9_method_32_code 74 = .ok (.iload_n 3, 1) := by decide +kernel
theorem d_M_space_75 : decode prog_9_method_32_code 75 = .ok (.ireturn, 1) := by decide +kernel
theorem d_M_space_76 : decode prog_9_method_32_code 76 = .ok (.iinc 3 1, 3) := by decide +kernel
theorem d_M_space_79 : decode prog_9_method_32_code 79 = .ok (.goto (-66), 3) := by decide +kernel
theorem d_M_space_82 : decode prog_9_method_32_code 82 = .ok (.iconst (-1), 1) := by decide +kernel
theorem d_M_space_83 : decode prog_9_method_32_code 83 = .ok (.ireturn, 1) := by decide +kernel
theorem d_M_writePart_0 : decode prog_9_method_33_code 0 = .ok (.aload_n 0, 1) := by decide +kernel
theorem d_M_writePart_1 : decode prog_9_method_33_code 1 = .ok (.invokevirtual 76, 3) := by decide +kernel
theorem d_M_writePart_4 : decode prog_9_method_33_code 4 = .ok (.ifCond .ne 4, 3) := by decide +kernel
theorem d_M_writePart_7 : decode prog_9_method_33_code 7 = .ok (.return_, 1) := by decide +kernel
theorem d_M_writePart_8 : decode prog_9_method_33_code 8 = .ok (.iconst 0, 1) := by decide +kernel
theorem d_M_writePart_9 : decode prog_9_method_33_code 9 = .ok (.istore_n 3, 1) := by decide +kernel
theorem d_M_writePart_10 : decode prog_9_method_33_code 10 = .ok (.iconst 0, 1) := by decide +kernel
theorem d_M_writePart_11 : decode prog_9_method_33_code 11 = .ok (.istore 4, 2) := by decide +kernel
theorem d_M_writePart_13 : decode prog_9_method_33_code 13 = .ok (.iload 4, 2) := by decide +kernel
theorem d_M_writePart_15 : decode prog_9_method_33_code 15 = .ok (.bipush 6, 2) := by decide +kernel
theorem d_M_writePart_17 : decode prog_9_method_33_code 17 = .ok (.if_icmp .ge 21, 3) := by decide +kernel
theorem d_M_writePart_20 : decode prog_9_method_33_code 20 = .ok (.iload_n 3, 1) := by decide +kernel
theorem d_M_writePart_21 : decode prog_9_method_33_code 21 = .ok (.aload_n 0, 1) := by decide +kernel
theorem d_M_writePart_22 : decode prog_9_method_33_code 22 = .ok (.getfield 36, 3) := by decide +kernel
theorem d_M_writePart_25 : decode prog_9_method_33_code 25 = .ok (.iload 4, 2) := by decide +kernel
theorem d_M_writePart_27 : decode prog_9_method_33_code 27 = .ok (.iaload, 1) := by decide +kernel
theorem d_M_writePart_28 : decode prog_9_method_33_code 28 = .ok (.invokestatic 104, 3) := by decide +kernel
theorem d_M_writePart_31 : decode prog_9_method_33_code 31 = .ok (.istore_n 3, 1) := by decide +kernel
theorem d_M_writePart_32 : decode prog_9_method_33_code 32 = .ok (.iinc 4 1, 3) := by decide +kernel
theorem d_M_writePart_35 : decode prog_9_method_33_code 35 = .ok (.goto (-22), 3) := by decide +kernel
theorem d_M_writePart_38 : decode prog_9_method_33_code 38 = .ok (.aload_n 0, 1) := by decide +kernel
theorem d_M_writePart_39 : decode prog_9_method_33_code 39 = .ok (.getfield 7, 3) := by decide +kernel
theorem d_M_writePart_42 : decode prog_9_method_33_code 42 = .ok (.iload_n 1, 1) := by decide +kernel
theorem d_M_writePart_43 : decode prog_9_method_33_code 43 = .ok (.iload_n 2, 1) := by decide +kernel
theorem d_M_writePart_44 : decode prog_9_method_33_code 44 = .ok (.aload_n 0, 1) := by decide +kernel
theorem d_M_writePart_45 : decode prog_9_method_33_code 45 = .ok (.getfield 135, 3) := by decide +kernel
theorem d_M_writePart_48 : decode prog_9_method_33_code 48 = .ok (.if_icmp .ne 10, 3) := by decide +kernel
theorem d_M_writePart_51 : decode prog_9_method_33_code 51 = .ok (.iload_n 2, 1) := by decide +kernel
theorem d_M_writePart_52 : decode prog_9_method_33_code 52 = .ok (.bipush 64, 2) := by decide +kernel
theorem d_M_writePart_54 : decode prog_9_method_33_code 54 = .ok (.iadd, 1) := by decide +kernel
theorem d_M_writePart_55 : decode prog_9_method_33_code 55 = .ok (.goto 4, 3) := by decide +kernel
theorem d_M_writePart_58 : decode prog_9_method_33_code 58 = .ok (.iload_n 2, 1) := by decide +kernel
theorem d_M_writePart_59 : decode prog_9_method_33_code 59 = .ok (.iastore, 1) := by decide +kernel
theorem d_M_writePart_60 : decode prog_9_method_33_code 60 = .ok (.aload_n 0, 1) := by decide +kernel
theorem d_M_writePart_61 : decode prog_9_method_33_code 61 = .ok (.getfield 7, 3) := by decide +kernel
theorem d_M_writePart_64 : decode prog_9_method_33_code 64 = .ok (.iload_n 1, 1) := by decide +kernel
theorem d_M_writePart_65 : decode prog_9_method_33_code 65 = .ok (.bipush 6, 2) := by decide +kernel
theorem d_M_writePart_67 : decode prog_9_method_33_code 67 = .ok (.iadd, 1) := by decide +kernel
theorem d_M_writePart_68 : decode prog_9_method_33_code 68 = .ok (.bipush 15, 2) := by decide +kernel
theorem d_M_writePart_70 : decode prog_9_method_33_code 70 = .ok (.iastore, 1) := by decide +kernel
theorem d_M_writePart_71 : decode prog_9_method_33_code 71 = .ok (.aload_n 0, 1) := by decide +kernel
theorem d_M_writePart_72 : decode prog_9_method_33_code 72 = .ok (.getfield 7, 3) := by decide +kernel
theorem d_M_writePart_75 : decode prog_9_method_33_code 75 = .ok (.iload_n 1, 1) := by decide +kernel
theorem d_M_writePart_76 : decode prog_9_method_33_code 76 = .ok (.bipush 7, 2) := by decide +kernel
theorem d_M_writePart_78 : decode prog_9_method_33_code 78 = .ok (.iadd, 1) := by decide +kernel
theorem d_M_writePart_79 : decode prog_9_method_33_code 79 = .ok (.iload_n 3, 1) := by decide +kernel
theorem d_M_writePart_80 : decode prog_9_method_33_code 80 = .ok (.iastore, 1) := by decide +kernel
theorem d_M_writePart_81 : decode prog_9_method_33_code 81 = .ok (.iconst 0, 1) := by decide +kernel
theorem d_M_writePart_82 : decode prog_9_method_33_code 82 = .ok (.istore 4, 2) := by decide +kernel
theorem d_M_writePart_84 : decode prog_9_method_33_code 84 = .ok (.iload 4, 2) := by decide +kernel
theorem d_M_writePart_86 : decode prog_9_method_33_code 86 = .ok (.bipush 13, 2) := by decide +kernel
theorem d_M_writePart_88 : decode prog_9_method_33_code 88 = .ok (.if_icmp .ge 53, 3) := by decide +kernel
theorem d_M_writePart_91 : decode prog_9_method_33_code 91 = .ok (.bipush 13, 2) := by decide +kernel
theorem d_M_writePart_93 : decode prog_9_method_33_code 93 = .ok (.iload_n 2, 1) := by decide +kernel
theorem d_M_writePart_94 : decode prog_9_method_33_code 94 = .ok (.imul, 1) := by decide +kernel
theorem d_M_writePart_95 : decode prog_9_method_33_code 95 = .ok (.bipush 13, 2) := by decide +kernel
theorem d_M_writePart_97 : decode prog_9_method_33_code 97 = .ok (.isub, 1) := by decide +kernel
theorem d_M_writePart_98 : decode prog_9_method_33_code 98 = .ok (.iload 4, 2) := by decide +kernel
theorem d_M_writePart_100 : decode prog_9_method_33_code 100 = .ok (.iadd, 1) := by decide +kernel
theorem d_M_writePart_101 : decode prog_9_method_33_code 101 = .ok (.istore 5, 2) := by decide +kernel
theorem d_M_writePart_103 : decode prog_9_method_33_code 103 = .ok (.aload_n 0, 1) := by decide +kernel
theorem d_M_writePart_104 : decode prog_9_method_33_code 104 = .ok (.getfield 7, 3) := by decide +kernel
theorem d_M_writePart_107 : decode prog_9_method_33_code 107 = .ok (.iload_n 1, 1) := by decide +kernel
theorem d_M_writePart_108 : decode prog_9_method_33_code 108 = .ok (.iload 4, 2) := by decide +kernel
theorem d_M_writePart_110 : decode prog_9_method_33_code 110 = .ok (.invokestatic 113, 3) := by decide +kernel
theorem d_M_writePart_113 : decode prog_9_method_33_code 113 = .ok (.iadd, 1) := by decide +kernel
theorem d_M_writePart_114 : decode prog_9_method_33_code 114 = .ok (.iload 5, 2) := by decide +kernel
theorem d_M_writePart_116 : decode prog_9_method_33_code 116 = .ok (.aload_n 0, 1) := by decide +kernel
theorem d_M_writePart_117 : decode prog_9_method_33_code 117 = .ok (.getfield 67, 3) := by decide +kernel
theorem d_M_writePart_120 : decode prog_9_method_33_code 120 = .ok (.if_icmp .ge 13, 3) := by decide +kernel
theorem d_M_writePart_123 : decode prog_9_method_33_code 123 = .ok (.aload_n 0, 1) := by decide +kernel
theorem d_M_writePart_124 : decode prog_9_method_33_code 124 = .ok (.getfield 21, 3) := by decide +kernel
theorem d_M_writePart_127 : decode prog_9_method_33_code 127 = .ok (.iload 5, 2) := by decide +kernel
theorem d_M_writePart_129 : decode prog_9_method_33_code 129 = .ok (.iaload, 1) := by decide +kernel
theorem d_M_writePart_130 : decode prog_9_method_33_code 130 = .ok (.goto 4, 3) := by decide +kernel
theorem d_M_writePart_133 : decode prog_9_method_33_code 133 = .ok (.iconst 0, 1) := by decide +kernel
theorem d_M_writePart_134 : decode prog_9_method_33_code 134 = .ok (.iastore, 1) := by decide +kernel
theorem d_M_writePart_135 : decode prog_9_method_33_code 135 = .ok (.iinc 4 1, 3) := by decide +kernel
theorem d_M_writePart_138 : decode prog_9_method_33_code 138 = .ok (.goto (-54), 3) := by decide +kernel
theorem d_M_writePart_141 : decode prog_9_method_33_code 141 = .ok (.return_, 1) := by decide +kernel
theorem d_M_writeEntry_0 : decode prog_9_method_34_code 0 = .ok (.aload_n 0, 1) := by decide +kernel
theorem d_M_writeEntry_1 : decode prog_9_method_34_code 1 = .ok (.invokevirtual 76, 3) := by decide +kernel
theorem d_M_writeEntry_4 : decode prog_9_method_34_code 4 = .ok (.ifCond .ne 4, 3) := by decide +kernel
theorem d_M_writeEntry_7 : decode prog_9_method_34_code 7 = .ok (.return_, 1) := by decide +kernel
theorem d_M_writeEntry_8 : decode prog_9_method_34_code 8 = .ok (.iconst 0, 1) := by decide +kernel
theorem d_M_writeEntry_9 : decode prog_9_method_34_code 9 = .ok (.istore 4, 2) := by decide +kernel
theorem d_M_writeEntry_11 : decode prog_9_method_34_code 11 = .ok (.iload 4, 2) := by decide +kernel
theorem d_M_writeEntry_13 : decode prog_9_method_34_code 13 = .ok (.bipush 16, 2) := by decide +kernel
theorem d_M_writeEntry_15 : decode prog_9_method_34_code 15 = .ok (.if_icmp .ge 36, 3) := by decide +kernel
theorem d_M_writeEntry_18 : decode prog_9_method_34_code 18 = .ok (.aload_n 0, 1) := by decide +kernel
theorem d_M_writeEntry_19 : decode prog_9_method_34_code 19 = .ok (.getfield 7, 3) := by decide +kernel
theorem d_M_writeEntry_22 : decode prog_9_method_34_code 22 = .ok (.iload_n 1, 1) := by decide +kernel
theorem d_M_writeEntry_23 : decode prog_9_method_34_code 23 = .ok (.iload 4, 2) := by decide +kernel
theorem d_M_writeEntry_25 : decode prog_9_method_34_code 25 = .ok (.iadd, 1) := by decide +kernel
theorem d_M_writeEntry_26 : decode prog_9_method_34_code 26 = .ok (.iload 4, 2) := by decide +kernel
theorem d_M_writeEntry_28 : decode prog_9_method_34_code 28 = .ok (.bipush 6, 2) := by decide +kernel
theorem d_M_writeEntry_30 : decode prog_9_method_34_code 30 = .ok (.if_icmp .ge 13, 3) := by decide +kernel
theorem d_M_writeEntry_33 : decode prog_9_method_34_code 33 = .ok (.aload_n 0, 1) := by decide +kernel
theorem d_M_writeEntry_34 : decode prog_9_method_34_code 34 = .ok (.getfield 36, 3) := by decide +kernel
theorem d_M_writeEntry_37 : decode prog_9_method_34_code 37 = .ok (.iload 4, 2) := by decide +kernel
theorem d_M_writeEntry_39 : decode prog_9_method_34_code 39 = .ok (.iaload, 1) := by decide +kernel
theorem d_M_writeEntry_40 : decode prog_9_method_34_code 40 = .ok (.goto 4, 3) := by decide +kernel
theorem d_M_writeEntry_43 : decode prog_9_method_34_code 43 = .ok (.iconst 0, 1) := by decide +kernel
theorem d_M_writeEntry_44 : decode prog_9_method_34_code 44 = .ok (.iastore, 1) := by decide +kernel
theorem d_M_writeEntry_45 : decode prog_9_method_34_code 45 = .ok (.iinc 4 1, 3) := by decide +kernel
theorem d_M_writeEntry_48 : decode prog_9_method_34_code 48 = .ok (.goto (-37), 3) := by decide +kernel
theorem d_M_writeEntry_51 : decode prog_9_method_34_code 51 = .ok (.aload_n 0, 1) := by decide +kernel
theorem d_M_writeEntry_52 : decode prog_9_method_34_code 52 = .ok (.getfield 7, 3) := by decide +kernel
theorem d_M_writeEntry_55 : decode prog_9_method_34_code 55 = .ok (.iload_n 1, 1) := by decide +kernel
theorem d_M_writeEntry_56 : decode prog_9_method_34_code 56 = .ok (.bipush 6, 2) := by decide +kernel
theorem d_M_writeEntry_58 : decode prog_9_method_34_code 58 = .ok (.iadd, 1) := by decide +kernel
theorem d_M_writeEntry_59 : decode prog_9_method_34_code 59 = .ok (.iload_n 2, 1) := by decide +kernel
theorem d_M_writeEntry_60 : decode prog_9_method_34_code 60 = .ok (.iastore, 1) := by decide +kernel
theorem d_M_writeEntry_61 : decode prog_9_method_34_code 61 = .ok (.aload_n 0, 1) := by decide +kernel
theorem d_M_writeEntry_62 : decode prog_9_method_34_code 62 = .ok (.iload_n 1, 1) := by decide +kernel
theorem d_M_writeEntry_63 : decode prog_9_method_34_code 63 = .ok (.bipush 8, 2) := by decide +kernel
theorem d_M_writeEntry_65 : decode prog_9_method_34_code 65 = .ok (.iadd, 1) := by decide +kernel
theorem d_M_writeEntry_66 : decode prog_9_method_34_code 66 = .ok (.iload_n 3, 1) := by decide +kernel
theorem d_M_writeEntry_67 : decode prog_9_method_34_code 67 = .ok (.invokevirtual 53, 3) := by decide +kernel
theorem d_M_writeEntry_70 : decode prog_9_method_34_code 70 = .ok (.return_, 1) := by decide +kernel
theorem d_M_make_0 : decode prog_9_method_35_code 0 = .ok (.iload_n 1, 1) := by decide +kernel
theorem d_M_make_1 : decode prog_9_method_35_code 1 = .ok (.iconst 2, 1) := by decide +kernel
theorem d_M_make_2 : decode prog_9_method_35_code 2 = .ok (.if_icmp .ne 10, 3) := by decide +kernel
theorem d_M_make_5 : decode prog_9_method_35_code 5 = .ok (.aload_n 0, 1) := by decide +kernel
theorem d_M_make_6 : decode prog_9_method_35_code 6 = .ok (.invokevirtual 144, 3) := by decide +kernel
theorem d_M_make_9 : decode prog_9_method_35_code 9 = .ok (.goto 4, 3) := by decide +kernel
theorem d_M_make_12 : decode prog_9_method_35_code 12 = .ok (.iconst 0, 1) := by decide +kernel
theorem d_M_make_13 : decode prog_9_method_35_code 13 = .ok (.istore_n 2, 1) := by decide +kernel
theorem d_M_make_14 : decode prog_9_method_35_code 14 = .ok (.iload_n 1, 1) := by decide +kernel
theorem d_M_make_15 : decode prog_9_method_35_code 15 = .ok (.iconst 2, 1) := by decide +kernel
theorem d_M_make_16 : decode prog_9_method_35_code 16 = .ok (.if_icmp .ne 9, 3) := by decide +kernel
theorem d_M_make_19 : decode prog_9_method_35_code 19 = .ok (.iload_n 2, 1) := by decide +kernel
theorem d_M_make_20 : decode prog_9_method_35_code 20 = .ok (.ifCond .ne 5, 3) := by decide +kernel
theorem d_M_make_23 : decode prog_9_method_35_code 23 = .ok (.iconst 0, 1) := by decide +kernel
theorem d_M_make_24 : decode prog_9_method_35_code 24 = .ok (.ireturn, 1) := by decide +kernel
theorem d_M_make_25 : decode prog_9_method_35_code 25 = .ok (.aload_n 0, 1) := by decide +kernel
theorem d_M_make_26 : decode prog_9_method_35_code 26 = .ok (.aload_n 0, 1) := by decide +kernel
theorem d_M_make_27 : decode prog_9_method_35_code 27 = .ok (.getfield 135, 3) := by decide +kernel
theorem d_M_make_30 : decode prog_9_method_35_code 30 = .ok (.iconst 1, 1) := by decide +kernel
theorem d_M_make_31 : decode prog_9_method_35_code 31 = .ok (.iadd, 1) := by decide +kernel
theorem d_M_make_32 : decode prog_9_method_35_code 32 = .ok (.invokevirtual 148, 3) := by decide +kernel
theorem d_M_make_35 : decode prog_9_method_35_code 35 = .ok (.istore_n 3, 1) := by decide +kernel
theorem d_M_make_36 : decode prog_9_method_35_code 36 = .ok (.iload_n 3, 1) := by decide +kernel
theorem d_M_make_37 : decode prog_9_method_35_code 37 = .ok (.ifCond .ge 61, 3) := by decide +kernel
theorem d_M_make_40 : decode prog_9_method_35_code 40 = .ok (.aload_n 0, 1) := by decide +kernel
theorem d_M_make_41 : decode prog_9_method_35_code 41 = .ok (.getfield 64, 3) := by decide +kernel
theorem d_M_make_44 : decode prog_9_method_35_code 44 = .ok (.ifCond .ne 54, 3) := by decide +kernel
theorem d_M_make_47 : decode prog_9_method_35_code 47 = .ok (.aload_n 0, 1) := by decide +kernel
theorem d_M_make_48 : decode prog_9_method_35_code 48 = .ok (.invokevirtual 144, 3) := by decide +kernel
theorem d_M_make_51 : decode prog_9_method_35_code 51 = .ok (.istore 4, 2) := by decide +kernel
theorem d_M_make_53 : decode prog_9_method_35_code 53 = .ok (.iload 4, 2) := by decide +kernel
theorem d_M_make_55 : decode prog_9_method_35_code 55 = .ok (.ifCond .ne 5, 3) := by decide +kernel
theorem d_M_make_58 : decode prog_9_method_35_code 58 = .ok (.iconst 0, 1) := by decide +kernel
theorem d_M_make_59 : decode prog_9_method_35_code 59 = .ok (.ireturn, 1) := by decide +kernel
theorem d_M_make_60 : decode prog_9_method_35_code 60 = .ok (.aload_n 0, 1) := by decide +kernel
theorem d_M_make_61 : decode prog_9_method_35_code 61 = .ok (.aload_n 0, 1) := by decide +kernel
theorem d_M_make_62 : decode prog_9_method_35_code 62 = .ok (.aload_n 0, 1) := by decide +kernel
theorem d_M_make_63 : decode prog_9_method_35_code 63 = .ok (.getfield 24, 3) := by decide +kernel
theorem d_M_make_66 : decode prog_9_method_35_code 66 = .ok (.aload_n 0, 1) := by decide +kernel
theorem d_M_make_67 : decode prog_9_method_35_code 67 = .ok (.aload_n 0, 1) := by decide +kernel
theorem d_M_make_68 : decode prog_9_method_35_code 68 = .ok (.getfield 24, 3) := by decide +kernel
theorem d_M_make_71 : decode prog_9_method_35_code 71 = .ok (.invokevirtual 126, 3) := by decide +kernel
theorem d_M_make_74 : decode prog_9_method_35_code 74 = .ok (.iconst 1, 1) := by decide +kernel
theorem d_M_make_75 : decode prog_9_method_35_code 75 = .ok (.isub, 1) := by decide +kernel
theorem d_M_make_76 : decode prog_9_method_35_code 76 = .ok (.invokevirtual 90, 3) := by decide +kernel
theorem d_M_make_79 : decode prog_9_method_35_code 79 = .ok (.iload 4, 2) := by decide +kernel
theorem d_M_make_81 : decode prog_9_method_35_code 81 = .ok (.invokevirtual 83, 3) := by decide +kernel
theorem d_M_make_84 : decode prog_9_method_35_code 84 = .ok (.aload_n 0, 1) := by decide +kernel
theorem d_M_make_85 : decode prog_9_method_35_code 85 = .ok (.aload_n 0, 1) := by decide +kernel
theorem d_M_make_86 : decode prog_9_method_35_code 86 = .ok (.getfield 135, 3) := by decide +kernel
theorem d_M_make_89 : decode prog_9_method_35_code 89 = .ok (.iconst 1, 1) := by decide +kernel
theorem d_M_make_90 : decode prog_9_method_35_code 90 = .ok (.iadd, 1) := by decide +kernel
theorem d_M_make_91 : decode prog_9_method_35_code 91 = .ok (.invokevirtual 148, 3) := by decide +kernel
theorem d_M_make_94 : decode prog_9_method_35_code 94 = .ok (.istore_n 3, 1) := by decide +kernel
theorem d_M_make_95 : decode prog_9_method_35_code 95 = .ok (.goto (-59), 3) := by decide +kernel
theorem d_M_make_98 : decode prog_9_method_35_code 98 = .ok (.aload_n 0, 1) := by decide +kernel
theorem d_M_make_99 : decode prog_9_method_35_code 99 = .ok (.getfield 135, 3) := by decide +kernel
theorem d_M_make_102 : decode prog_9_method_35_code 102 = .ok (.istore 4, 2) := by decide +kernel
theorem d_M_make_104 : decode prog_9_method_35_code 104 = .ok (.iload 4, 2) := by decide +kernel
theorem d_M_make_106 : decode prog_9_method_35_code 106 = .ok (.ifCond .le 39, 3) := by decide +kernel
theorem d_M_make_109 : decode prog_9_method_35_code 109 = .ok (.aload_n 0, 1) := by decide +kernel
theorem d_M_make_110 : decode prog_9_method_35_code 110 = .ok (.getfield 64, 3) := by decide +kernel
theorem d_M_make_113 : decode prog_9_method_35_code 113 = .ok (.ifCond .ne 32, 3) := by decide +kernel
theorem d_M_make_116 : decode prog_9_method_35_code 116 = .ok (.aload_n 0, 1) := by decide +kernel
theorem d_M_make_117 : decode prog_9_method_35_code 117 = .ok (.aload_n 0, 1) := by decide +kernel
theorem d_M_make_118 : decode prog_9_method_35_code 118 = .ok (.aload_n 0, 1) := by decide +kernel
theorem d_M_make_119 : decode prog_9_method_35_code 119 = .ok (.getfield 24, 3) := by decide +kernel
theorem d_M_make_122 : decode prog_9_method_35_code 122 = .ok (.iload_n 3, 1) := by decide +kernel
theorem d_M_make_123 : decode prog_9_method_35_code 123 = .ok (.aload_n 0, 1) := by decide +kernel
theorem d_M_make_124 : decode prog_9_method_35_code 124 = .ok (.getfield 135, 3) := by decide +kernel
theorem d_M_make_127 : decode prog_9_method_35_code 127 = .ok (.iadd, 1) := by decide +kernel
theorem d_M_make_128 : decode prog_9_method_35_code 128 = .ok (.iload 4, 2) := by decide +kernel
theorem d_M_make_130 : decode prog_9_method_35_code 130 = .ok (.isub, 1) := by decide +kernel
theorem d_M_make_131 : decode prog_9_method_35_code 131 = .ok (.invokevirtual 98, 3) := by decide +kernel
theorem d_M_make_134 : decode prog_9_method_35_code 134 = .ok (.iload 4, 2) := by decide +kernel
theorem d_M_make_136 : decode prog_9_method_35_code 136 = .ok (.invokevirtual 151, 3) := by decide +kernel
theorem d_M_make_139 : decode prog_9_method_35_code 139 = .ok (.iinc 4 (-1), 3) := by decide +kernel
theorem d_M_make_142 : decode prog_9_method_35_code 142 = .ok (.goto (-38), 3) := by decide +kernel
theorem d_M_make_145 : decode prog_9_method_35_code 145 = .ok (.aload_n 0, 1) := by decide +kernel
theorem d_M_make_146 : decode prog_9_method_35_code 146 = .ok (.getfield 64, 3) := by decide +kernel
theorem d_M_make_149 : decode prog_9_method_35_code 149 = .ok (.ifCond .ne 23, 3) := by decide +kernel
theorem d_M_make_152 : decode prog_9_method_35_code 152 = .ok (.aload_n 0, 1) := by decide +kernel
theorem d_M_make_153 : decode prog_9_method_35_code 153 = .ok (.aload_n 0, 1) := by decide +kernel
theorem d_M_make_154 : decode prog_9_method_35_code 154 = .ok (.aload_n 0, 1) := by decide +kernel
theorem d_M_make_155 : decode prog_9_method_35_code 155 = .ok (.getfield 24, 3) := by decide +kernel
theorem d_M_make_158 : decode prog_9_method_35_code 158 = .ok (.iload_n 3, 1) := by decide +kernel
theorem d_M_make_159 : decode prog_9_method_35_code 159 = .ok (.aload_n 0, 1) := by decide +kernel
theorem d_M_make_160 : decode prog_9_method_35_code 160 = .ok (.getfield 135, 3) := by decide +kernel
theorem d_M_make_163 : decode prog_9_method_35_code 163 = .ok (.iadd, 1) := by decide +kernel
theorem d_M_make_164 : decode prog_9_method_35_code 164 = .ok (.invokevirtual 98, 3) := by decide +kernel
theorem d_M_make_167 : decode prog_9_method_35_code 167 = .ok (.iload_n 1, 1) := by decide +kernel
theorem d_M_make_168 : decode prog_9_method_35_code 168 = .ok (.iload_n 2, 1) := by decide +kernel
theorem d_M_make_169 : decode prog_9_method_35_code 169 = .ok (.invokevirtual 154, 3) := by decide +kernel
theorem d_M_make_172 : decode prog_9_method_35_code 172 = .ok (.iconst 1, 1) := by decide +kernel
theorem d_M_make_173 : decode prog_9_method_35_code 173 = .ok (.ireturn, 1) := by decide +kernel
theorem d_M_create_0 : decode prog_9_method_36_code 0 = .ok (.aload_n 0, 1) := by decide +kernel
theorem d_M_create_1 : decode prog_9_method_36_code 1 = .ok (.invokevirtual 158, 3) := by decide +kernel
theorem d_M_create_4 : decode prog_9_method_36_code 4 = .ok (.ifCond .ne 4, 3) := by decide +kernel
theorem d_M_create_7 : decode prog_9_method_36_code 7 = .ok (.return_, 1) := by decide +kernel
theorem d_M_create_8 : decode prog_9_method_36_code 8 = .ok (.aload_n 0, 1) := by decide +kernel
theorem d_M_create_9 : decode prog_9_method_36_code 9 = .ok (.getfield 67, 3) := by decide +kernel
theorem d_M_create_12 : decode prog_9_method_36_code 12 = .ok (.ifCond .eq 23, 3) := by decide +kernel
theorem d_M_create_15 : decode prog_9_method_36_code 15 = .ok (.aload_n 0, 1) := by decide +kernel
theorem d_M_create_16 : decode prog_9_method_36_code 16 = .ok (.getfield 21, 3) := by decide +kernel
theorem d_M_create_19 : decode prog_9_method_36_code 19 = .ok (.iconst 0, 1) := by decide +kernel
theorem d_M_create_20 : decode prog_9_method_36_code 20 = .ok (.iaload, 1) := by decide +kernel
theorem d_M_create_21 : decode prog_9_method_36_code 21 = .ok (.bipush 46, 2) := by decide +kernel
theorem d_M_create_23 : decode prog_9_method_36_code 23 = .ok (.if_icmp .eq 12, 3) := by decide +kernel
theorem d_M_create_26 : decode prog_9_method_36_code 26 = .ok (.iload_n 1, 1) := by decide +kernel
theorem d_M_create_27 : decode prog_9_method_36_code 27 = .ok (.iconst 1, 1) := by decide +kernel
theorem d_M_create_28 : decode prog_9_method_36_code 28 = .ok (.iconst 2, 1) := by decide +kernel
theorem d_M_create_29 : decode prog_9_method_36_code 29 = .ok (.invokestatic 86, 3) := by decide +kernel
theorem d_M_create_32 : decode prog_9_method_36_code 32 = .ok (.ifCond .ne 11, 3) := by decide +kernel
theorem d_M_create_35 : decode prog_9_method_36_code 35 = .ok (.aload_n 0, 1) := by decide +kernel
theorem d_M_create_36 : decode prog_9_method_36_code 36 = .ok (.iconst 2, 1) := by decide +kernel
theorem d_M_create_37 : decode prog_9_method_36_code 37 = .ok (.putfield 57, 3) := by decide +kernel
theorem d_M_create_40 : decode prog_9_method_36_code 40 = .ok (.goto 68, 3) := by decide +kernel
theorem d_M_create_43 : decode prog_9_method_36_code 43 = .ok (.aload_n 0, 1) := by decide +kernel
theorem d_M_create_44 : decode prog_9_method_36_code 44 = .ok (.invokevirtual 161, 3) := by decide +kernel
theorem d_M_create_47 : decode prog_9_method_36_code 47 = .ok (.ifCond .ge 35, 3) := by decide +kernel
theorem d_M_create_50 : decode prog_9_method_36_code 50 = .ok (.iload_n 1, 1) := by decide +kernel
theorem d_M_create_51 : decode prog_9_method_36_code 51 = .ok (.iconst 1, 1) := by decide +kernel
theorem d_M_create_52 : decode prog_9_method_36_code 52 = .ok (.if_icmp .eq 11, 3) := by decide +kernel
theorem d_M_create_55 : decode prog_9_method_36_code 55 = .ok (.aload_n 0, 1) := by decide +kernel
theorem d_M_create_56 : decode prog_9_method_36_code 56 = .ok (.getfield 27, 3) := by decide +kernel
theorem d_M_create_59 : decode prog_9_method_36_code 59 = .ok (.iconst 5, 1) := by decide +kernel
theorem d_M_create_60 : decode prog_9_method_36_code 60 = .ok (.if_icmp .ge 22, 3) := by decide +kernel
theorem d_M_create_63 : decode prog_9_method_36_code 63 = .ok (.aload_n 0, 1) := by decide +kernel
theorem d_M_create_64 : decode prog_9_method_36_code 64 = .ok (.invokevirtual 164, 3) := by decide +kernel
theorem d_M_create_67 : decode prog_9_method_36_code 67 = .ok (.ifCond .eq 15, 3) := by decide +kernel
theorem d_M_create_70 : decode prog_9_method_36_code 70 = .ok (.aload_n 0, 1) := by decide +kernel
theorem d_M_create_71 : decode prog_9_method_36_code 71 = .ok (.iload_n 1, 1) := by decide +kernel
theorem d_M_create_72 : decode prog_9_method_36_code 72 = .ok (.invokevirtual 167, 3) := by decide +kernel
theorem d_M_create_75 : decode prog_9_method_36_code 75 = .ok (.ifCond .eq 7, 3) := by decide +kernel
theorem d_M_create_78 : decode prog_9_method_36_code 78 = .ok (.iconst 1, 1) := by decide +kernel
theorem d_M_create_79 : decode prog_9_method_36_code 79 = .ok (.goto 4, 3) := by decide +kernel
theorem d_M_create_82 : decode prog_9_method_36_code 82 = .ok (.iconst 0, 1) := by decide +kernel
theorem d_M_create_83 : decode prog_9_method_36_code 83 = .ok (.istore_n 2, 1) := by decide +kernel
theorem d_M_create_84 : decode prog_9_method_36_code 84 = .ok (.aload_n 0, 1) := by decide +kernel
theorem d_M_create_85 : decode prog_9_method_36_code 85 = .ok (.aload_n 0, 1) := by decide +kernel
theorem d_M_create_86 : decode prog_9_method_36_code 86 = .ok (.getfield 64, 3) := by decide +kernel
theorem d_M_create_89 : decode prog_9_method_36_code 89 = .ok (.ifCond .eq 7, 3) := by decide +kernel
theorem d_M_create_92 : decode prog_9_method_36_code 92 = .ok (.iconst 1, 1) := by decide +kernel
theorem d_M_create_93 : decode prog_9_method_36_code 93 = .ok (.goto 12, 3) := by decide +kernel
theorem d_M_create_96 : decode prog_9_method_36_code 96 = .ok (.iload_n 2, 1) := by decide +kernel
theorem d_M_create_97 : decode prog_9_method_36_code 97 = .ok (.ifCond .eq 7, 3) := by decide +kernel
theorem d_M_create_100 : decode prog_9_method_36_code 100 = .ok (.iconst 0, 1) := by decide +kernel
theorem d_M_create_101 : decode prog_9_method_36_code 101 = .ok (.goto 4, 3) := by decide +kernel
theorem d_M_create_104 : decode prog_9_method_36_code 104 = .ok (.iconst 3, 1) := by decide +kernel
theorem d_M_create_105 : decode prog_9_method_36_code 105 = .ok (.putfield 57, 3) := by decide +kernel
theorem d_M_create_108 : decode prog_9_method_36_code 108 = .ok (.aload_n 0, 1) := by decide +kernel
theorem d_M_create_109 : decode prog_9_method_36_code 109 = .ok (.iconst 0, 1) := by decide +kernel
theorem d_M_create_110 : decode prog_9_method_36_code 110 = .ok (.putfield 67, 3) := by decide +kernel
theorem d_M_create_113 : decode prog_9_method_36_code 113 = .ok (.return_, 1) := by decide +kernel
theorem d_M_isEmpty_0 : decode prog_9_method_38_code 0 = .ok (.iconst 1, 1) := by decide +kernel
theorem d_M_isEmpty_1 : decode prog_9_method_38_code 1 = .ok (.istore_n 2, 1) := by decide +kernel
theorem d_M_isEmpty_2 : decode prog_9_method_38_code 2 = .ok (.iconst 0, 1) := by decide +kernel
theorem d_M_isEmpty_3 : decode prog_9_method_38_code 3 = .ok (.istore_n 3, 1) := by decide +kernel
theorem d_M_isEmpty_4 : decode prog_9_method_38_code 4 = .ok (.iload_n 3, 1) := by decide +kernel
theorem d_M_isEmpty_5 : decode prog_9_method_38_code 5 = .ok (.iconst 2, 1) := by decide +kernel
theorem d_M_isEmpty_6 : decode prog_9_method_38_code 6 = .ok (.aload_n 0, 1) := by decide +kernel
theorem d_M_isEmpty_7 : decode prog_9_method_38_code 7 = .ok (.iload_n 1, 1) := by decide +kernel
theorem d_M_isEmpty_8 : decode prog_9_method_38_code 8 = .ok (.invokevirtual 126, 3) := by decide +kernel
theorem d_M_isEmpty_11 : decode prog_9_method_38_code 11 = .ok (.imul, 1) := by decide +kernel
theorem d_M_isEmpty_12 : decode prog_9_method_38_code 12 = .ok (.if_icmp .ge 32, 3) := by decide +kernel
theorem d_M_isEmpty_15 : decode prog_9_method_38_code 15 = .ok (.iload_n 2, 1) := by decide +kernel
theorem d_M_isEmpty_16 : decode prog_9_method_38_code 16 = .ok (.ifCond .eq 20, 3) := by decide +kernel
theorem d_M_isEmpty_19 : decode prog_9_method_38_code 19 = .ok (.aload_n 0, 1) := by decide +kernel
theorem d_M_isEmpty_20 : decode prog_9_method_38_code 20 = .ok (.aload_n 0, 1) := by decide +kernel
theorem d_M_isEmpty_21 : decode prog_9_method_38_code 21 = .ok (.iload_n 1, 1) := by decide +kernel
theorem d_M_isEmpty_22 : decode prog_9_method_38_code 22 = .ok (.iload_n 3, 1) := by decide +kernel
theorem d_M_isEmpty_23 : decode prog_9_method_38_code 23 = .ok (.invokevirtual 98, 3) := by decide +kernel
theorem d_M_isEmpty_26 : decode prog_9_method_38_code 26 = .ok (.invokevirtual 94, 3) := by decide +kernel
theorem d_M_isEmpty_29 : decode prog_9_method_38_code 29 = .ok (.ifCond .eq 7, 3) := by decide +kernel
theorem d_M_isEmpty_32 : decode prog_9_method_38_code 32 = .ok (.iconst 1, 1) := by decide +kernel
theorem d_M_isEmpty_33 : decode prog_9_method_38_code 33 = .ok (.goto 4, 3) := by decide +kernel
theorem d_M_isEmpty_36 : decode prog_9_method_38_code 36 = .ok (.iconst 0, 1) := by decide +kernel
theorem d_M_isEmpty_37 : decode prog_9_method_38_code 37 = .ok (.istore_n 2, 1) := by decide +kernel
theorem d_M_isEmpty_38 : decode prog_9_method_38_code 38 = .ok (.iinc 3 1, 3) := by decide +kernel
theorem d_M_isEmpty_41 : decode prog_9_method_38_code 41 = .ok (.goto (-37), 3) := by decide +kernel
theorem d_M_isEmpty_44 : decode prog_9_method_38_code 44 = .ok (.iload_n 2, 1) := by decide +kernel
theorem d_M_isEmpty_45 : decode prog_9_method_38_code 45 = .ok (.ireturn, 1) := by decide +kernel
theorem d_M_mark_0 : decode prog_9_method_9_code 0 = .ok (.aload_n 0, 1) := by decide +kernel
theorem d_M_mark_1 : decode prog_9_method_9_code 1 = .ok (.invokevirtual 76, 3) := by decide +kernel
theorem d_M_mark_4 : decode prog_9_method_9_code 4 = .ok (.ifCond .eq 12, 3) := by decide +kernel
theorem d_M_mark_7 : decode prog_9_method_9_code 7 = .ok (.aload_n 0, 1) := by decide +kernel
theorem d_M_mark_8 : decode prog_9_method_9_code 8 = .ok (.getfield 7, 3) := by decide +kernel
theorem d_M_mark_11 : decode prog_9_method_9_code 11 = .ok (.iload_n 1, 1) := by decide +kernel
theorem d_M_mark_12 : decode prog_9_method_9_code 12 = .ok (.sipush 229, 3) := by decide +kernel
theorem d_M_mark_15 : decode prog_9_method_9_code 15 = .ok (.iastore, 1) := by decide +kernel
theorem d_M_mark_16 : decode prog_9_method_9_code 16 = .ok (.return_, 1) := by decide +kernel
theorem d_M_free_0 : decode prog_9_method_37_code 0 = .ok (.iload_n 2, 1) := by decide +kernel
theorem d_M_free_1 : decode prog_9_method_37_code 1 = .ok (.aload_n 0, 1) := by decide +kernel
theorem d_M_free_2 : decode prog_9_method_37_code 2 = .ok (.iload_n 1, 1) := by decide +kernel
theorem d_M_free_3 : decode prog_9_method_37_code 3 = .ok (.iload_n 2, 1) := by decide +kernel
theorem d_M_free_4 : decode prog_9_method_37_code 4 = .ok (.invokevirtual 110, 3) := by decide +kernel
theorem d_M_free_7 : decode prog_9_method_37_code 7 = .ok (.isub, 1) := by decide +kernel
theorem d_M_free_8 : decode prog_9_method_37_code 8 = .ok (.istore_n 3, 1) := by decide +kernel
theorem d_M_free_9 : decode prog_9_method_37_code 9 = .ok (.iload_n 3, 1) := by decide +kernel
theorem d_M_free_10 : decode prog_9_method_37_code 10 = .ok (.iload_n 2, 1) := by decide +kernel
theorem d_M_free_11 : decode prog_9_method_37_code 11 = .ok (.if_icmp .gt 19, 3) := by decide +kernel
theorem d_M_free_14 : decode prog_9_method_37_code 14 = .ok (.aload_n 0, 1) := by decide +kernel
theorem d_M_free_15 : decode prog_9_method_37_code 15 = .ok (.aload_n 0, 1) := by decide +kernel
theorem d_M_free_16 : decode prog_9_method_37_code 16 = .ok (.iload_n 1, 1) := by decide +kernel
theorem d_M_free_17 : decode prog_9_method_37_code 17 = .ok (.iload_n 3, 1) := by decide +kernel
theorem d_M_free_18 : decode prog_9_method_37_code 18 = .ok (.invokevirtual 98, 3) := by decide +kernel
theorem d_M_free_21 : decode prog_9_method_37_code 21 = .ok (.invokevirtual 170, 3) := by decide +kernel
theorem d_M_free_24 : decode prog_9_method_37_code 24 = .ok (.iinc 3 1, 3) := by decide +kernel
theorem d_M_free_27 : decode prog_9_method_37_code 27 = .ok (.goto (-18), 3) := by decide +kernel
theorem d_M_free_30 : decode prog_9_method_37_code 30 = .ok (.return_, 1) := by decide +kernel
theorem d_M_delete_0 : decode prog_9_method_39_code 0 = .ok (.aload_n 0, 1) := by decide +kernel
theorem d_M_delete_1 : decode prog_9_method_39_code 1 = .ok (.invokevirtual 158, 3) := by decide +kernel
theorem d_M_delete_4 : decode prog_9_method_39_code 4 = .ok (.ifCond .ne 4, 3) := by decide +kernel
theorem d_M_delete_7 : decode prog_9_method_39_code 7 = .ok (.return_, 1) := by decide +kernel
theorem d_M_delete_8 : decode prog_9_method_39_code 8 = .ok (.aload_n 0, 1) := by decide +kernel
theorem d_M_delete_9 : decode prog_9_method_39_code 9 = .ok (.invokevirtual 161, 3) := by decide +kernel
theorem d_M_delete_12 : decode prog_9_method_39_code 12 = .ok (.istore_n 1, 1) := by decide +kernel
theorem d_M_delete_13 : decode prog_9_method_39_code 13 = .ok (.aload_n 0, 1) := by decide +kernel
theorem d_M_delete_14 : decode prog_9_method_39_code 14 = .ok (.iconst 0, 1) := by decide +kernel
theorem d_M_delete_15 : decode prog_9_method_39_code 15 = .ok (.putfield 67, 3) := by decide +kernel
theorem d_M_delete_18 : decode prog_9_method_39_code 18 = .ok (.aload_n 0, 1) := by decide +kernel
theorem d_M_delete_19 : decode prog_9_method_39_code 19 = .ok (.iload_n 1, 1) := by decide +kernel
theorem d_M_delete_20 : decode prog_9_method_39_code 20 = .ok (.ifCond .ge 7, 3) := by decide +kernel
theorem d_M_delete_23 : decode prog_9_method_39_code 23 = .ok (.iconst 2, 1) := by decide +kernel
theorem d_M_delete_24 : decode prog_9_method_39_code 24 = .ok (.goto 4, 3) := by decide +kernel
theorem d_M_delete_27 : decode prog_9_method_39_code 27 = .ok (.iconst 0, 1) := by decide +kernel
theorem d_M_delete_28 : decode prog_9_method_39_code 28 = .ok (.putfield 57, 3) := by decide +kernel
theorem d_M_delete_31 : decode prog_9_method_39_code 31 = .ok (.iload_n 1, 1) := by decide +kernel
theorem d_M_delete_32 : decode prog_9_method_39_code 32 = .ok (.ifCond .ge 4, 3) := by decide +kernel
theorem d_M_delete_35 : decode prog_9_method_39_code 35 = .ok (.return_, 1) := by decide +kernel
theorem d_M_delete_36 : decode prog_9_method_39_code 36 = .ok (.aload_n 0, 1) := by decide +kernel
theorem d_M_delete_37 : decode prog_9_method_39_code 37 = .ok (.aload_n 0, 1) := by decide +kernel
theorem d_M_delete_38 : decode prog_9_method_39_code 38 = .ok (.getfield 24, 3) := by decide +kernel
theorem d_M_delete_41 : decode prog_9_method_39_code 41 = .ok (.iload_n 1, 1) := by decide +kernel
theorem d_M_delete_42 : decode prog_9_method_39_code 42 = .ok (.invokevirtual 98, 3) := by decide +kernel
theorem d_M_delete_45 : decode prog_9_method_39_code 45 = .ok (.istore_n 2, 1) := by decide +kernel
theorem d_M_delete_46 : decode prog_9_method_39_code 46 = .ok (.aload_n 0, 1) := by decide +kernel
theorem d_M_delete_47 : decode prog_9_method_39_code 47 = .ok (.iload_n 2, 1) := by decide +kernel
theorem d_M_delete_48 : decode prog_9_method_39_code 48 = .ok (.bipush 8, 2) := by decide +kernel
theorem d_M_delete_50 : decode prog_9_method_39_code 50 = .ok (.iadd, 1) := by decide +kernel
theorem d_M_delete_51 : decode prog_9_method_39_code 51 = .ok (.invokevirtual 60, 3) := by decide +kernel
theorem d_M_delete_54 : decode prog_9_method_39_code 54 = .ok (.istore_n 3, 1) := by decide +kernel
theorem d_M_delete_55 : decode prog_9_method_39_code 55 = .ok (.aload_n 0, 1) := by decide +kernel
theorem d_M_delete_56 : decode prog_9_method_39_code 56 = .ok (.getfield 7, 3) := by decide +kernel
theorem d_M_delete_59 : decode prog_9_method_39_code 59 = .ok (.iload_n 2, 1) := by decide +kernel
theorem d_M_delete_60 : decode prog_9_method_39_code 60 = .ok (.bipush 6, 2) := by decide +kernel
theorem d_M_delete_62 : decode prog_9_method_39_code 62 = .ok (.iadd, 1) := by decide +kernel
theorem d_M_delete_63 : decode prog_9_method_39_code 63 = .ok (.iaload, 1) := by decide +kernel
theorem d_M_delete_64 : decode prog_9_method_39_code 64 = .ok (.iconst 1, 1) := by decide +kernel
