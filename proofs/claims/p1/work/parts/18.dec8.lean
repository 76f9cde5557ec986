theorem d_M_look_41 : decode prog_9_method_63_code 41 = .ok (.iconst 0, 1) := by decide +kernel
theorem d_M_look_42 : decode prog_9_method_63_code 42 = .ok (.istore_n 2, 1) := by decide +kernel
theorem d_M_look_43 : decode prog_9_method_63_code 43 = .ok (.iconst 2, 1) := by decide +kernel
theorem d_M_look_44 : decode prog_9_method_63_code 44 = .ok (.istore_n 3, 1) := by decide +kernel
theorem d_M_look_45 : decode prog_9_method_63_code 45 = .ok (.iload_n 3, 1) := by decide +kernel
theorem d_M_look_46 : decode prog_9_method_63_code 46 = .ok (.bipush 64, 2) := by decide +kernel
theorem d_M_look_48 : decode prog_9_method_63_code 48 = .ok (.if_icmp .ge 25, 3) := by decide +kernel
theorem d_M_look_51 : decode prog_9_method_63_code 51 = .ok (.iload_n 2, 1) := by decide +kernel
theorem d_M_look_52 : decode prog_9_method_63_code 52 = .ok (.aload_n 0, 1) := by decide +kernel
theorem d_M_look_53 : decode prog_9_method_63_code 53 = .ok (.iload_n 3, 1) := by decide +kernel
theorem d_M_look_54 : decode prog_9_method_63_code 54 = .ok (.invokevirtual 80, 3) := by decide +kernel
theorem d_M_look_57 : decode prog_9_method_63_code 57 = .ok (.ifCond .ne 7, 3) := by decide +kernel
theorem d_M_look_60 : decode prog_9_method_63_code 60 = .ok (.iconst 1, 1) := by decide +kernel
theorem d_M_look_61 : decode prog_9_method_63_code 61 = .ok (.goto 4, 3) := by decide +kernel
theorem d_M_look_64 : decode prog_9_method_63_code 64 = .ok (.iconst 0, 1) := by decide +kernel
theorem d_M_look_65 : decode prog_9_method_63_code 65 = .ok (.iadd, 1) := by decide +kernel
theorem d_M_look_66 : decode prog_9_method_63_code 66 = .ok (.istore_n 2, 1) := by decide +kernel
theorem d_M_look_67 : decode prog_9_method_63_code 67 = .ok (.iinc 3 1, 3) := by decide +kernel
theorem d_M_look_70 : decode prog_9_method_63_code 70 = .ok (.goto (-25), 3) := by decide +kernel
theorem d_M_look_73 : decode prog_9_method_63_code 73 = .ok (.iload_n 1, 1) := by decide +kernel
theorem d_M_look_74 : decode prog_9_method_63_code 74 = .ok (.iconst 3, 1) := by decide +kernel
theorem d_M_look_75 : decode prog_9_method_63_code 75 = .ok (.if_icmp .ge 45, 3) := by decide +kernel
theorem d_M_look_78 : decode prog_9_method_63_code 78 = .ok (.iload_n 1, 1) := by decide +kernel
theorem d_M_look_79 : decode prog_9_method_63_code 79 = .ok (.ifCond .ne 18, 3) := by decide +kernel
theorem d_M_look_82 : decode prog_9_method_63_code 82 = .ok (.aload_n 0, 1) := by decide +kernel
theorem d_M_look_83 : decode prog_9_method_63_code 83 = .ok (.getfield 13, 3) := by decide +kernel
theorem d_M_look_86 : decode prog_9_method_63_code 86 = .ok (.ifCond .eq 7, 3) := by decide +kernel
theorem d_M_look_89 : decode prog_9_method_63_code 89 = .ok (.iconst 1, 1) := by decide +kernel
theorem d_M_look_90 : decode prog_9_method_63_code 90 = .ok (.goto 29, 3) := by decide +kernel
theorem d_M_look_93 : decode prog_9_method_63_code 93 = .ok (.iconst 0, 1) := by decide +kernel
theorem d_M_look_94 : decode prog_9_method_63_code 94 = .ok (.goto 25, 3) := by decide +kernel
theorem d_M_look_97 : decode prog_9_method_63_code 97 = .ok (.iload_n 1, 1) := by decide +kernel
theorem d_M_look_98 : decode prog_9_method_63_code 98 = .ok (.iconst 1, 1) := by decide +kernel
theorem d_M_look_99 : decode prog_9_method_63_code 99 = .ok (.if_icmp .ne 10, 3) := by decide +kernel
theorem d_M_look_102 : decode prog_9_method_63_code 102 = .ok (.aload_n 0, 1) := by decide +kernel
theorem d_M_look_103 : decode prog_9_method_63_code 103 = .ok (.getfield 73, 3) := by decide +kernel
theorem d_M_look_106 : decode prog_9_method_63_code 106 = .ok (.goto 13, 3) := by decide +kernel
theorem d_M_look_109 : decode prog_9_method_63_code 109 = .ok (.iload_n 1, 1) := by decide +kernel
theorem d_M_look_110 : decode prog_9_method_63_code 110 = .ok (.iconst 2, 1) := by decide +kernel
theorem d_M_look_111 : decode prog_9_method_63_code 111 = .ok (.if_icmp .ne 7, 3) := by decide +kernel
theorem d_M_look_114 : decode prog_9_method_63_code 114 = .ok (.iload_n 2, 1) := by decide +kernel
theorem d_M_look_115 : decode prog_9_method_63_code 115 = .ok (.goto 4, 3) := by decide +kernel
theorem d_M_look_118 : decode prog_9_method_63_code 118 = .ok (.iconst (-1), 1) := by decide +kernel
theorem d_M_look_119 : decode prog_9_method_63_code 119 = .ok (.ireturn, 1) := by decide +kernel
theorem d_M_look_120 : decode prog_9_method_63_code 120 = .ok (.iload_n 1, 1) := by decide +kernel
theorem d_M_look_121 : decode prog_9_method_63_code 121 = .ok (.iconst 3, 1) := by decide +kernel
theorem d_M_look_122 : decode prog_9_method_63_code 122 = .ok (.if_icmp .ne 10, 3) := by decide +kernel
theorem d_M_look_125 : decode prog_9_method_63_code 125 = .ok (.aload_n 0, 1) := by decide +kernel
theorem d_M_look_126 : decode prog_9_method_63_code 126 = .ok (.getfield 24, 3) := by decide +kernel
theorem d_M_look_129 : decode prog_9_method_63_code 129 = .ok (.goto 16, 3) := by decide +kernel
theorem d_M_look_132 : decode prog_9_method_63_code 132 = .ok (.iload_n 1, 1) := by decide +kernel
theorem d_M_look_133 : decode prog_9_method_63_code 133 = .ok (.iconst 4, 1) := by decide +kernel
theorem d_M_look_134 : decode prog_9_method_63_code 134 = .ok (.if_icmp .ne 10, 3) := by decide +kernel
theorem d_M_look_137 : decode prog_9_method_63_code 137 = .ok (.aload_n 0, 1) := by decide +kernel
theorem d_M_look_138 : decode prog_9_method_63_code 138 = .ok (.getfield 67, 3) := by decide +kernel
theorem d_M_look_141 : decode prog_9_method_63_code 141 = .ok (.goto 4, 3) := by decide +kernel
theorem d_M_look_144 : decode prog_9_method_63_code 144 = .ok (.iconst (-1), 1) := by decide +kernel
theorem d_M_look_145 : decode prog_9_method_63_code 145 = .ok (.ireturn, 1) := by decide +kernel
