theorem dM_made_0 : decode prog_7_method_13_code 0 = .ok (.aload_n 0, 1) := by decide +kernel
theorem dM_made_1 : decode prog_7_method_13_code 1 = .ok (.getfield 118, 3) := by decide +kernel
theorem dM_made_4 : decode prog_7_method_13_code 4 = .ok (.istore_n 3, 1) := by decide +kernel
theorem dM_made_5 : decode prog_7_method_13_code 5 = .ok (.aload_n 0, 1) := by decide +kernel
theorem dM_made_6 : decode prog_7_method_13_code 6 = .ok (.dup, 1) := by decide +kernel
theorem dM_made_7 : decode prog_7_method_13_code 7 = .ok (.getfield 118, 3) := by decide +kernel
theorem dM_made_10 : decode prog_7_method_13_code 10 = .ok (.iconst 1, 1) := by decide +kernel
theorem dM_made_11 : decode prog_7_method_13_code 11 = .ok (.iadd, 1) := by decide +kernel
theorem dM_made_12 : decode prog_7_method_13_code 12 = .ok (.putfield 118, 3) := by decide +kernel
theorem dM_made_15 : decode prog_7_method_13_code 15 = .ok (.aload_n 0, 1) := by decide +kernel
theorem dM_made_16 : decode prog_7_method_13_code 16 = .ok (.getfield 19, 3) := by decide +kernel
theorem dM_made_19 : decode prog_7_method_13_code 19 = .ok (.iload_n 3, 1) := by decide +kernel
theorem dM_made_20 : decode prog_7_method_13_code 20 = .ok (.iload_n 2, 1) := by decide +kernel
theorem dM_made_21 : decode prog_7_method_13_code 21 = .ok (.iastore, 1) := by decide +kernel
theorem dM_made_22 : decode prog_7_method_13_code 22 = .ok (.aload_n 0, 1) := by decide +kernel
theorem dM_made_23 : decode prog_7_method_13_code 23 = .ok (.getfield 28, 3) := by decide +kernel
theorem dM_made_26 : decode prog_7_method_13_code 26 = .ok (.iload_n 3, 1) := by decide +kernel
theorem dM_made_27 : decode prog_7_method_13_code 27 = .ok (.iconst 0, 1) := by decide +kernel
theorem dM_made_28 : decode prog_7_method_13_code 28 = .ok (.iastore, 1) := by decide +kernel
theorem dM_made_29 : decode prog_7_method_13_code 29 = .ok (.aload_n 0, 1) := by decide +kernel
theorem dM_made_30 : decode prog_7_method_13_code 30 = .ok (.getfield 31, 3) := by decide +kernel
theorem dM_made_33 : decode prog_7_method_13_code 33 = .ok (.iload_n 3, 1) := by decide +kernel
theorem dM_made_34 : decode prog_7_method_13_code 34 = .ok (.iconst (-1), 1) := by decide +kernel
theorem dM_made_35 : decode prog_7_method_13_code 35 = .ok (.iastore, 1) := by decide +kernel
theorem dM_made_36 : decode prog_7_method_13_code 36 = .ok (.aload_n 0, 1) := by decide +kernel
theorem dM_made_37 : decode prog_7_method_13_code 37 = .ok (.getfield 34, 3) := by decide +kernel
theorem dM_made_40 : decode prog_7_method_13_code 40 = .ok (.iload_n 3, 1) := by decide +kernel
theorem dM_made_41 : decode prog_7_method_13_code 41 = .ok (.iconst (-1), 1) := by decide +kernel
theorem dM_made_42 : decode prog_7_method_13_code 42 = .ok (.iastore, 1) := by decide +kernel
theorem dM_made_43 : decode prog_7_method_13_code 43 = .ok (.aload_n 0, 1) := by decide +kernel
theorem dM_made_44 : decode prog_7_method_13_code 44 = .ok (.getfield 37, 3) := by decide +kernel
theorem dM_made_47 : decode prog_7_method_13_code 47 = .ok (.iload_n 3, 1) := by decide +kernel
theorem dM_made_48 : decode prog_7_method_13_code 48 = .ok (.iconst (-1), 1) := by decide +kernel
theorem dM_made_49 : decode prog_7_method_13_code 49 = .ok (.iastore, 1) := by decide +kernel
theorem dM_made_50 : decode prog_7_method_13_code 50 = .ok (.aload_n 0, 1) := by decide +kernel
theorem dM_made_51 : decode prog_7_method_13_code 51 = .ok (.getfield 40, 3) := by decide +kernel
theorem dM_made_54 : decode prog_7_method_13_code 54 = .ok (.iload_n 3, 1) := by decide +kernel
theorem dM_made_55 : decode prog_7_method_13_code 55 = .ok (.iconst (-1), 1) := by decide +kernel
theorem dM_made_56 : decode prog_7_method_13_code 56 = .ok (.iastore, 1) := by decide +kernel
theorem dM_made_57 : decode prog_7_method_13_code 57 = .ok (.aload_n 0, 1) := by decide +kernel
theorem dM_made_58 : decode prog_7_method_13_code 58 = .ok (.getfield 43, 3) := by decide +kernel
theorem dM_made_61 : decode prog_7_method_13_code 61 = .ok (.iload_n 3, 1) := by decide +kernel
theorem dM_made_62 : decode prog_7_method_13_code 62 = .ok (.aload_n 0, 1) := by decide +kernel
theorem dM_made_63 : decode prog_7_method_13_code 63 = .ok (.getfield 121, 3) := by decide +kernel
theorem dM_made_66 : decode prog_7_method_13_code 66 = .ok (.iastore, 1) := by decide +kernel
theorem dM_made_67 : decode prog_7_method_13_code 67 = .ok (.iconst 0, 1) := by decide +kernel
theorem dM_made_68 : decode prog_7_method_13_code 68 = .ok (.istore 4, 2) := by decide +kernel
theorem dM_made_70 : decode prog_7_method_13_code 70 = .ok (.iload 4, 2) := by decide +kernel
theorem dM_made_72 : decode prog_7_method_13_code 72 = .ok (.aload_n 0, 1) := by decide +kernel
theorem dM_made_73 : decode prog_7_method_13_code 73 = .ok (.getfield 121, 3) := by decide +kernel
theorem dM_made_76 : decode prog_7_method_13_code 76 = .ok (.if_icmp .ge 28, 3) := by decide +kernel
theorem dM_made_79 : decode prog_7_method_13_code 79 = .ok (.aload_n 0, 1) := by decide +kernel
theorem dM_made_80 : decode prog_7_method_13_code 80 = .ok (.getfield 46, 3) := by decide +kernel
theorem dM_made_83 : decode prog_7_method_13_code 83 = .ok (.bipush 7, 2) := by decide +kernel
theorem dM_made_85 : decode prog_7_method_13_code 85 = .ok (.iload_n 3, 1) := by decide +kernel
theorem dM_made_86 : decode prog_7_method_13_code 86 = .ok (.imul, 1) := by decide +kernel
theorem dM_made_87 : decode prog_7_method_13_code 87 = .ok (.iload 4, 2) := by decide +kernel
theorem dM_made_89 : decode prog_7_method_13_code 89 = .ok (.iadd, 1) := by decide +kernel
theorem dM_made_90 : decode prog_7_method_13_code 90 = .ok (.aload_n 0, 1) := by decide +kernel
theorem dM_made_91 : decode prog_7_method_13_code 91 = .ok (.getfield 49, 3) := by decide +kernel
theorem dM_made_94 : decode prog_7_method_13_code 94 = .ok (.iload 4, 2) := by decide +kernel
theorem dM_made_96 : decode prog_7_method_13_code 96 = .ok (.iaload, 1) := by decide +kernel
theorem dM_made_97 : decode prog_7_method_13_code 97 = .ok (.iastore, 1) := by decide +kernel
theorem dM_made_98 : decode prog_7_method_13_code 98 = .ok (.iinc 4 1, 3) := by decide +kernel
theorem dM_made_101 : decode prog_7_method_13_code 101 = .ok (.goto (-31), 3) := by decide +kernel
theorem dM_made_104 : decode prog_7_method_13_code 104 = .ok (.aload_n 0, 1) := by decide +kernel
theorem dM_made_105 : decode prog_7_method_13_code 105 = .ok (.getfield 25, 3) := by decide +kernel
theorem dM_made_108 : decode prog_7_method_13_code 108 = .ok (.iload_n 3, 1) := by decide +kernel
theorem dM_made_109 : decode prog_7_method_13_code 109 = .ok (.iload_n 1, 1) := by decide +kernel
theorem dM_made_110 : decode prog_7_method_13_code 110 = .ok (.iastore, 1) := by decide +kernel
theorem dM_made_111 : decode prog_7_method_13_code 111 = .ok (.aload_n 0, 1) := by decide +kernel
theorem dM_made_112 : decode prog_7_method_13_code 112 = .ok (.getfield 22, 3) := by decide +kernel
theorem dM_made_115 : decode prog_7_method_13_code 115 = .ok (.iload_n 3, 1) := by decide +kernel
theorem dM_made_116 : decode prog_7_method_13_code 116 = .ok (.iload_n 1, 1) := by decide +kernel
theorem dM_made_117 : decode prog_7_method_13_code 117 = .ok (.iconst (-1), 1) := by decide +kernel
theorem dM_made_118 : decode prog_7_method_13_code 118 = .ok (.if_icmp .ne 7, 3) := by decide +kernel
theorem dM_made_121 : decode prog_7_method_13_code 121 = .ok (.iconst 0, 1) := by decide +kernel
theorem dM_made_122 : decode prog_7_method_13_code 122 = .ok (.goto 11, 3) := by decide +kernel
theorem dM_made_125 : decode prog_7_method_13_code 125 = .ok (.aload_n 0, 1) := by decide +kernel
theorem dM_made_126 : decode prog_7_method_13_code 126 = .ok (.getfield 22, 3) := by decide +kernel
theorem dM_made_129 : decode prog_7_method_13_code 129 = .ok (.iload_n 1, 1) := by decide +kernel
theorem dM_made_130 : decode prog_7_method_13_code 130 = .ok (.iaload, 1) := by decide +kernel
theorem dM_made_131 : decode prog_7_method_13_code 131 = .ok (.iconst 1, 1) := by decide +kernel
theorem dM_made_132 : decode prog_7_method_13_code 132 = .ok (.iadd, 1) := by decide +kernel
theorem dM_made_133 : decode prog_7_method_13_code 133 = .ok (.iastore, 1) := by decide +kernel
theorem dM_made_134 : decode prog_7_method_13_code 134 = .ok (.iload_n 1, 1) := by decide +kernel
theorem dM_made_135 : decode prog_7_method_13_code 135 = .ok (.iconst (-1), 1) := by decide +kernel
theorem dM_made_136 : decode prog_7_method_13_code 136 = .ok (.if_icmp .ne 5, 3) := by decide +kernel
theorem dM_made_139 : decode prog_7_method_13_code 139 = .ok (.iload_n 3, 1) := by decide +kernel
theorem dM_made_140 : decode prog_7_method_13_code 140 = .ok (.ireturn, 1) := by decide +kernel
theorem dM_made_141 : decode prog_7_method_13_code 141 = .ok (.aload_n 0, 1) := by decide +kernel
theorem dM_made_142 : decode prog_7_method_13_code 142 = .ok (.getfield 31, 3) := by decide +kernel
theorem dM_made_145 : decode prog_7_method_13_code 145 = .ok (.iload_n 1, 1) := by decide +kernel
theorem dM_made_146 : decode prog_7_method_13_code 146 = .ok (.iaload, 1) := by decide +kernel
theorem dM_made_147 : decode prog_7_method_13_code 147 = .ok (.iconst (-1), 1) := by decide +kernel
theorem dM_made_148 : decode prog_7_method_13_code 148 = .ok (.if_icmp .ne 13, 3) := by decide +kernel
theorem dM_made_151 : decode prog_7_method_13_code 151 = .ok (.aload_n 0, 1) := by decide +kernel
theorem dM_made_152 : decode prog_7_method_13_code 152 = .ok (.getfield 31, 3) := by decide +kernel
theorem dM_made_155 : decode prog_7_method_13_code 155 = .ok (.iload_n 1, 1) := by decide +kernel
theorem dM_made_156 : decode prog_7_method_13_code 156 = .ok (.iload_n 3, 1) := by decide +kernel
theorem dM_made_157 : decode prog_7_method_13_code 157 = .ok (.iastore, 1) := by decide +kernel
theorem dM_made_158 : decode prog_7_method_13_code 158 = .ok (.goto 15, 3) := by decide +kernel
theorem dM_made_161 : decode prog_7_method_13_code 161 = .ok (.aload_n 0, 1) := by decide +kernel
theorem dM_made_162 : decode prog_7_method_13_code 162 = .ok (.getfield 37, 3) := by decide +kernel
theorem dM_made_165 : decode prog_7_method_13_code 165 = .ok (.aload_n 0, 1) := by decide +kernel
theorem dM_made_166 : decode prog_7_method_13_code 166 = .ok (.getfield 34, 3) := by decide +kernel
theorem dM_made_169 : decode prog_7_method_13_code 169 = .ok (.iload_n 1, 1) := by decide +kernel
theorem dM_made_170 : decode prog_7_method_13_code 170 = .ok (.iaload, 1) := by decide +kernel
theorem dM_made_171 : decode prog_7_method_13_code 171 = .ok (.iload_n 3, 1) := by decide +kernel
theorem dM_made_172 : decode prog_7_method_13_code 172 = .ok (.iastore, 1) := by decide +kernel
theorem dM_made_173 : decode prog_7_method_13_code 173 = .ok (.aload_n 0, 1) := by decide +kernel
theorem dM_made_174 : decode prog_7_method_13_code 174 = .ok (.getfield 34, 3) := by decide +kernel
theorem dM_made_177 : decode prog_7_method_13_code 177 = .ok (.iload_n 1, 1) := by decide +kernel
theorem dM_made_178 : decode prog_7_method_13_code 178 = .ok (.iload_n 3, 1) := by decide +kernel
theorem dM_made_179 : decode prog_7_method_13_code 179 = .ok (.iastore, 1) := by decide +kernel
theorem dM_made_180 : decode prog_7_method_13_code 180 = .ok (.aload_n 0, 1) := by decide +kernel
theorem dM_made_181 : decode prog_7_method_13_code 181 = .ok (.getfield 28, 3) := by decide +kernel
theorem dM_made_184 : decode prog_7_method_13_code 184 = .ok (.iload_n 1, 1) := by decide +kernel
theorem dM_made_185 : decode prog_7_method_13_code 185 = .ok (.dup2, 1) := by decide +kernel
theorem dM_made_186 : decode prog_7_method_13_code 186 = .ok (.iaload, 1) := by decide +kernel
theorem dM_made_187 : decode prog_7_method_13_code 187 = .ok (.iconst 1, 1) := by decide +kernel
theorem dM_made_188 : decode prog_7_method_13_code 188 = .ok (.iadd, 1) := by decide +kernel
theorem dM_made_189 : decode prog_7_method_13_code 189 = .ok (.iastore, 1) := by decide +kernel
theorem dM_made_190 : decode prog_7_method_13_code 190 = .ok (.iload_n 3, 1) := by decide +kernel
theorem dM_made_191 : decode prog_7_method_13_code 191 = .ok (.ireturn, 1) := by decide +kernel
theorem dM_mode_0 : decode prog_7_method_6_code 0 = .ok (.aload_n 0, 1) := by decide +kernel
theorem dM_mode_1 : decode prog_7_method_6_code 1 = .ok (.iconst 0, 1) := by decide +kernel
theorem dM_mode_2 : decode prog_7_method_6_code 2 = .ok (.putfield 115, 3) := by decide +kernel
theorem dM_mode_5 : decode prog_7_method_6_code 5 = .ok (.iload_n 1, 1) := by decide +kernel
theorem dM_mode_6 : decode prog_7_method_6_code 6 = .ok (.ifCond .lt 21, 3) := by decide +kernel
theorem dM_mode_9 : decode prog_7_method_6_code 9 = .ok (.iload_n 1, 1) := by decide +kernel
theorem dM_mode_10 : decode prog_7_method_6_code 10 = .ok (.aload_n 0, 1) := by decide +kernel
theorem dM_mode_11 : decode prog_7_method_6_code 11 = .ok (.getfield 142, 3) := by decide +kernel
theorem dM_mode_14 : decode prog_7_method_6_code 14 = .ok (.if_icmp .ge 13, 3) := by decide +kernel
theorem dM_mode_17 : decode prog_7_method_6_code 17 = .ok (.aload_n 0, 1) := by decide +kernel
theorem dM_mode_18 : decode prog_7_method_6_code 18 = .ok (.getfield 13, 3) := by decide +kernel
theorem dM_mode_21 : decode prog_7_method_6_code 21 = .ok (.iload_n 1, 1) := by decide +kernel
theorem dM_mode_22 : decode prog_7_method_6_code 22 = .ok (.iaload, 1) := by decide +kernel
theorem dM_mode_23 : decode prog_7_method_6_code 23 = .ok (.iconst 4, 1) := by decide +kernel
theorem dM_mode_24 : decode prog_7_method_6_code 24 = .ok (.if_icmp .ne 5, 3) := by decide +kernel
theorem dM_mode_27 : decode prog_7_method_6_code 27 = .ok (.iconst (-1), 1) := by decide +kernel
theorem dM_mode_28 : decode prog_7_method_6_code 28 = .ok (.ireturn, 1) := by decide +kernel
theorem dM_mode_29 : decode prog_7_method_6_code 29 = .ok (.aload_n 0, 1) := by decide +kernel
theorem dM_mode_30 : decode prog_7_method_6_code 30 = .ok (.getfield 13, 3) := by decide +kernel
theorem dM_mode_33 : decode prog_7_method_6_code 33 = .ok (.iload_n 1, 1) := by decide +kernel
theorem dM_mode_34 : decode prog_7_method_6_code 34 = .ok (.iaload, 1) := by decide +kernel
theorem dM_mode_35 : decode prog_7_method_6_code 35 = .ok (.istore_n 3, 1) := by decide +kernel
theorem dM_mode_36 : decode prog_7_method_6_code 36 = .ok (.aload_n 0, 1) := by decide +kernel
theorem dM_mode_37 : decode prog_7_method_6_code 37 = .ok (.getfield 16, 3) := by decide +kernel
theorem dM_mode_40 : decode prog_7_method_6_code 40 = .ok (.iconst 4, 1) := by decide +kernel
theorem dM_mode_41 : decode prog_7_method_6_code 41 = .ok (.iload_n 1, 1) := by decide +kernel
theorem dM_mode_42 : decode prog_7_method_6_code 42 = .ok (.imul, 1) := by decide +kernel
theorem dM_mode_43 : decode prog_7_method_6_code 43 = .ok (.iload_n 3, 1) := by decide +kernel
theorem dM_mode_44 : decode prog_7_method_6_code 44 = .ok (.iadd, 1) := by decide +kernel
theorem dM_mode_45 : decode prog_7_method_6_code 45 = .ok (.iload_n 2, 1) := by decide +kernel
theorem dM_mode_46 : decode prog_7_method_6_code 46 = .ok (.iastore, 1) := by decide +kernel
theorem dM_mode_47 : decode prog_7_method_6_code 47 = .ok (.aload_n 0, 1) := by decide +kernel
theorem dM_mode_48 : decode prog_7_method_6_code 48 = .ok (.getfield 13, 3) := by decide +kernel
theorem dM_mode_51 : decode prog_7_method_6_code 51 = .ok (.iload_n 1, 1) := by decide +kernel
theorem dM_mode_52 : decode prog_7_method_6_code 52 = .ok (.dup2, 1) := by decide +kernel
theorem dM_mode_53 : decode prog_7_method_6_code 53 = .ok (.iaload, 1) := by decide +kernel
theorem dM_mode_54 : decode prog_7_method_6_code 54 = .ok (.iconst 1, 1) := by decide +kernel
theorem dM_mode_55 : decode prog_7_method_6_code 55 = .ok (.iadd, 1) := by decide +kernel
theorem dM_mode_56 : decode prog_7_method_6_code 56 = .ok (.iastore, 1) := by decide +kernel
theorem dM_mode_57 : decode prog_7_method_6_code 57 = .ok (.aload_n 0, 1) := by decide +kernel
theorem dM_mode_58 : decode prog_7_method_6_code 58 = .ok (.invokevirtual 135, 3) := by decide +kernel
theorem dM_mode_61 : decode prog_7_method_6_code 61 = .ok (.iload_n 3, 1) := by decide +kernel
theorem dM_mode_62 : decode prog_7_method_6_code 62 = .ok (.ireturn, 1) := by decide +kernel
theorem dM_node_0 : decode prog_7_method_37_code 0 = .ok (.aload_n 0, 1) := by decide +kernel
theorem dM_node_1 : decode prog_7_method_37_code 1 = .ok (.iconst 0, 1) := by decide +kernel
theorem dM_node_2 : decode prog_7_method_37_code 2 = .ok (.putfield 115, 3) := by decide +kernel
theorem dM_node_5 : decode prog_7_method_37_code 5 = .ok (.aload_n 0, 1) := by decide +kernel
theorem dM_node_6 : decode prog_7_method_37_code 6 = .ok (.iload_n 1, 1) := by decide +kernel
theorem dM_node_7 : decode prog_7_method_37_code 7 = .ok (.invokevirtual 149, 3) := by decide +kernel
theorem dM_node_10 : decode prog_7_method_37_code 10 = .ok (.ifCond .ne 5, 3) := by decide +kernel
theorem dM_node_13 : decode prog_7_method_37_code 13 = .ok (.iconst (-1), 1) := by decide +kernel
theorem dM_node_14 : decode prog_7_method_37_code 14 = .ok (.ireturn, 1) := by decide +kernel
theorem dM_node_15 : decode prog_7_method_37_code 15 = .ok (.iload_n 2, 1) := by decide +kernel
theorem dM_node_16 : decode prog_7_method_37_code 16 = .ok (.tableswitch 81 (-1) 2 #[32, 60, 67, 74], 32) := by decide +kernel
theorem dM_node_48 : decode prog_7_method_37_code 48 = .ok (.aload_n 0, 1) := by decide +kernel
theorem dM_node_49 : decode prog_7_method_37_code 49 = .ok (.getfield 138, 3) := by decide +kernel
theorem dM_node_52 : decode prog_7_method_37_code 52 = .ok (.ifCond .eq 22, 3) := by decide +kernel
theorem dM_node_55 : decode prog_7_method_37_code 55 = .ok (.aload_n 0, 1) := by decide +kernel
theorem dM_node_56 : decode prog_7_method_37_code 56 = .ok (.getfield 19, 3) := by decide +kernel
theorem dM_node_59 : decode prog_7_method_37_code 59 = .ok (.iload_n 1, 1) := by decide +kernel
theorem dM_node_60 : decode prog_7_method_37_code 60 = .ok (.iaload, 1) := by decide +kernel
theorem dM_node_61 : decode prog_7_method_37_code 61 = .ok (.iconst 3, 1) := by decide +kernel
theorem dM_node_62 : decode prog_7_method_37_code 62 = .ok (.if_icmp .le 12, 3) := by decide +kernel
theorem dM_node_65 : decode prog_7_method_37_code 65 = .ok (.aload_n 0, 1) := by decide +kernel
theorem dM_node_66 : decode prog_7_method_37_code 66 = .ok (.getfield 78, 3) := by decide +kernel
theorem dM_node_69 : decode prog_7_method_37_code 69 = .ok (.iload_n 1, 1) := by decide +kernel
theorem dM_node_70 : decode prog_7_method_37_code 70 = .ok (.iaload, 1) := by decide +kernel
theorem dM_node_71 : decode prog_7_method_37_code 71 = .ok (.goto 4, 3) := by decide +kernel
theorem dM_node_74 : decode prog_7_method_37_code 74 = .ok (.iconst (-1), 1) := by decide +kernel
theorem dM_node_75 : decode prog_7_method_37_code 75 = .ok (.ireturn, 1) := by decide +kernel
theorem dM_node_76 : decode prog_7_method_37_code 76 = .ok (.aload_n 0, 1) := by decide +kernel
theorem dM_node_77 : decode prog_7_method_37_code 77 = .ok (.getfield 19, 3) := by decide +kernel
theorem dM_node_80 : decode prog_7_method_37_code 80 = .ok (.iload_n 1, 1) := by decide +kernel
theorem dM_node_81 : decode prog_7_method_37_code 81 = .ok (.iaload, 1) := by decide +kernel
theorem dM_node_82 : decode prog_7_method_37_code 82 = .ok (.ireturn, 1) := by decide +kernel
theorem dM_node_83 : decode prog_7_method_37_code 83 = .ok (.aload_n 0, 1) := by decide +kernel
theorem dM_node_84 : decode prog_7_method_37_code 84 = .ok (.getfield 28, 3) := by decide +kernel
theorem dM_node_87 : decode prog_7_method_37_code 87 = .ok (.iload_n 1, 1) := by decide +kernel
theorem dM_node_88 : decode prog_7_method_37_code 88 = .ok (.iaload, 1) := by decide +kernel
theorem dM_node_89 : decode prog_7_method_37_code 89 = .ok (.ireturn, 1) := by decide +kernel
theorem dM_node_90 : decode prog_7_method_37_code 90 = .ok (.aload_n 0, 1) := by decide +kernel
theorem dM_node_91 : decode prog_7_method_37_code 91 = .ok (.getfield 43, 3) := by decide +kernel
theorem dM_node_94 : decode prog_7_method_37_code 94 = .ok (.iload_n 1, 1) := by decide +kernel
theorem dM_node_95 : decode prog_7_method_37_code 95 = .ok (.iaload, 1) := by decide +kernel
theorem dM_node_96 : decode prog_7_method_37_code 96 = .ok (.ireturn, 1) := by decide +kernel
theorem dM_node_97 : decode prog_7_method_37_code 97 = .ok (.iload_n 2, 1) := by decide +kernel
theorem dM_node_98 : decode prog_7_method_37_code 98 = .ok (.iconst 2, 1) := by decide +kernel
theorem dM_node_99 : decode prog_7_method_37_code 99 = .ok (.if_icmp .le 31, 3) := by decide +kernel
theorem dM_node_102 : decode prog_7_method_37_code 102 = .ok (.iload_n 2, 1) := by decide +kernel
theorem dM_node_103 : decode prog_7_method_37_code 103 = .ok (.iconst 3, 1) := by decide +kernel
theorem dM_node_104 : decode prog_7_method_37_code 104 = .ok (.isub, 1) := by decide +kernel
theorem dM_node_105 : decode prog_7_method_37_code 105 = .ok (.aload_n 0, 1) := by decide +kernel
theorem dM_node_106 : decode prog_7_method_37_code 106 = .ok (.getfield 43, 3) := by decide +kernel
theorem dM_node_109 : decode prog_7_method_37_code 109 = .ok (.iload_n 1, 1) := by decide +kernel
theorem dM_node_110 : decode prog_7_method_37_code 110 = .ok (.iaload, 1) := by decide +kernel
theorem dM_node_111 : decode prog_7_method_37_code 111 = .ok (.if_icmp .ge 19, 3) := by decide +kernel
theorem dM_node_114 : decode prog_7_method_37_code 114 = .ok (.aload_n 0, 1) := by decide +kernel
theorem dM_node_115 : decode prog_7_method_37_code 115 = .ok (.getfield 46, 3) := by decide +kernel
theorem dM_node_118 : decode prog_7_method_37_code 118 = .ok (.bipush 7, 2) := by decide +kernel
theorem dM_node_120 : decode prog_7_method_37_code 120 = .ok (.iload_n 1, 1) := by decide +kernel
theorem dM_node_121 : decode prog_7_method_37_code 121 = .ok (.imul, 1) := by decide +kernel
theorem dM_node_122 : decode prog_7_method_37_code 122 = .ok (.iload_n 2, 1) := by decide +kernel
theorem dM_node_123 : decode prog_7_method_37_code 123 = .ok (.iadd, 1) := by decide +kernel
theorem dM_node_124 : decode prog_7_method_37_code 124 = .ok (.iconst 3, 1) := by decide +kernel
theorem dM_node_125 : decode prog_7_method_37_code 125 = .ok (.isub, 1) := by decide +kernel
theorem dM_node_126 : decode prog_7_method_37_code 126 = .ok (.iaload, 1) := by decide +kernel
theorem dM_node_127 : decode prog_7_method_37_code 127 = .ok (.goto 4, 3) := by decide +kernel
theorem dM_node_130 : decode prog_7_method_37_code 130 = .ok (.iconst (-1), 1) := by decide +kernel
theorem dM_node_131 : decode prog_7_method_37_code 131 = .ok (.ireturn, 1) := by decide +kernel
theorem dM_not_0 : decode prog_7_method_31_code 0 = .ok (.aload_n 0, 1) := by decide +kernel
theorem dM_not_1 : decode prog_7_method_31_code 1 = .ok (.getfield 31, 3) := by decide +kernel
theorem dM_not_4 : decode prog_7_method_31_code 4 = .ok (.iload_n 2, 1) := by decide +kernel
theorem dM_not_5 : decode prog_7_method_31_code 5 = .ok (.iaload, 1) := by decide +kernel
theorem dM_not_6 : decode prog_7_method_31_code 6 = .ok (.istore_n 3, 1) := by decide +kernel
theorem dM_not_7 : decode prog_7_method_31_code 7 = .ok (.iload_n 3, 1) := by decide +kernel
theorem dM_not_8 : decode prog_7_method_31_code 8 = .ok (.iconst (-1), 1) := by decide +kernel
theorem dM_not_9 : decode prog_7_method_31_code 9 = .ok (.if_icmp .ne 12, 3) := by decide +kernel
theorem dM_not_12 : decode prog_7_method_31_code 12 = .ok (.aload_n 0, 1) := by decide +kernel
theorem dM_not_13 : decode prog_7_method_31_code 13 = .ok (.iload_n 2, 1) := by decide +kernel
theorem dM_not_14 : decode prog_7_method_31_code 14 = .ok (.iconst 0, 1) := by decide +kernel
theorem dM_not_15 : decode prog_7_method_31_code 15 = .ok (.lconst 0, 1) := by decide +kernel
theorem dM_not_16 : decode prog_7_method_31_code 16 = .ok (.invokevirtual 211, 3) := by decide +kernel
theorem dM_not_19 : decode prog_7_method_31_code 19 = .ok (.iconst 1, 1) := by decide +kernel
theorem dM_not_20 : decode prog_7_method_31_code 20 = .ok (.ireturn, 1) := by decide +kernel
theorem dM_not_21 : decode prog_7_method_31_code 21 = .ok (.aload_n 0, 1) := by decide +kernel
theorem dM_not_22 : decode prog_7_method_31_code 22 = .ok (.getfield 90, 3) := by decide +kernel
theorem dM_not_25 : decode prog_7_method_31_code 25 = .ok (.iload_n 1, 1) := by decide +kernel
theorem dM_not_26 : decode prog_7_method_31_code 26 = .ok (.iaload, 1) := by decide +kernel
theorem dM_not_27 : decode prog_7_method_31_code 27 = .ok (.ifCond .ne 22, 3) := by decide +kernel
theorem dM_not_30 : decode prog_7_method_31_code 30 = .ok (.aload_n 0, 1) := by decide +kernel
theorem dM_not_31 : decode prog_7_method_31_code 31 = .ok (.getfield 90, 3) := by decide +kernel
theorem dM_not_34 : decode prog_7_method_31_code 34 = .ok (.iload_n 1, 1) := by decide +kernel
theorem dM_not_35 : decode prog_7_method_31_code 35 = .ok (.iconst 1, 1) := by decide +kernel
theorem dM_not_36 : decode prog_7_method_31_code 36 = .ok (.iastore, 1) := by decide +kernel
theorem dM_not_37 : decode prog_7_method_31_code 37 = .ok (.aload_n 0, 1) := by decide +kernel
theorem dM_not_38 : decode prog_7_method_31_code 38 = .ok (.iload_n 3, 1) := by decide +kernel
theorem dM_not_39 : decode prog_7_method_31_code 39 = .ok (.aload_n 0, 1) := by decide +kernel
theorem dM_not_40 : decode prog_7_method_31_code 40 = .ok (.getfield 62, 3) := by decide +kernel
theorem dM_not_43 : decode prog_7_method_31_code 43 = .ok (.iload_n 2, 1) := by decide +kernel
theorem dM_not_44 : decode prog_7_method_31_code 44 = .ok (.laload, 1) := by decide +kernel
theorem dM_not_45 : decode prog_7_method_31_code 45 = .ok (.invokevirtual 207, 3) := by decide +kernel
theorem dM_not_48 : decode prog_7_method_31_code 48 = .ok (.ireturn, 1) := by decide +kernel
theorem dM_not_49 : decode prog_7_method_31_code 49 = .ok (.aload_n 0, 1) := by decide +kernel
theorem dM_not_50 : decode prog_7_method_31_code 50 = .ok (.getfield 68, 3) := by decide +kernel
theorem dM_not_53 : decode prog_7_method_31_code 53 = .ok (.iload_n 3, 1) := by decide +kernel
theorem dM_not_54 : decode prog_7_method_31_code 54 = .ok (.baload, 1) := by decide +kernel
theorem dM_not_55 : decode prog_7_method_31_code 55 = .ok (.ifCond .ne 10, 3) := by decide +kernel
theorem dM_not_58 : decode prog_7_method_31_code 58 = .ok (.aload_n 0, 1) := by decide +kernel
theorem dM_not_59 : decode prog_7_method_31_code 59 = .ok (.getfield 84, 3) := by decide +kernel
theorem dM_not_62 : decode prog_7_method_31_code 62 = .ok (.iload_n 2, 1) := by decide +kernel
theorem dM_not_63 : decode prog_7_method_31_code 63 = .ok (.iload_n 3, 1) := by decide +kernel
theorem dM_not_64 : decode prog_7_method_31_code 64 = .ok (.iastore, 1) := by decide +kernel
theorem dM_not_65 : decode prog_7_method_31_code 65 = .ok (.aload_n 0, 1) := by decide +kernel
theorem dM_not_66 : decode prog_7_method_31_code 66 = .ok (.iload_n 2, 1) := by decide +kernel
theorem dM_not_67 : decode prog_7_method_31_code 67 = .ok (.aload_n 0, 1) := by decide +kernel
theorem dM_not_68 : decode prog_7_method_31_code 68 = .ok (.getfield 68, 3) := by decide +kernel
theorem dM_not_71 : decode prog_7_method_31_code 71 = .ok (.iload_n 3, 1) := by decide +kernel
theorem dM_not_72 : decode prog_7_method_31_code 72 = .ok (.baload, 1) := by decide +kernel
theorem dM_not_73 : decode prog_7_method_31_code 73 = .ok (.ifCond .eq 36, 3) := by decide +kernel
theorem dM_not_76 : decode prog_7_method_31_code 76 = .ok (.aload_n 0, 1) := by decide +kernel
theorem dM_not_77 : decode prog_7_method_31_code 77 = .ok (.getfield 65, 3) := by decide +kernel
theorem dM_not_80 : decode prog_7_method_31_code 80 = .ok (.iload_n 3, 1) := by decide +kernel
theorem dM_not_81 : decode prog_7_method_31_code 81 = .ok (.laload, 1) := by decide +kernel
theorem dM_not_82 : decode prog_7_method_31_code 82 = .ok (.aload_n 0, 1) := by decide +kernel
theorem dM_not_83 : decode prog_7_method_31_code 83 = .ok (.getfield 62, 3) := by decide +kernel
theorem dM_not_86 : decode prog_7_method_31_code 86 = .ok (.iload_n 2, 1) := by decide +kernel
theorem dM_not_87 : decode prog_7_method_31_code 87 = .ok (.laload, 1) := by decide +kernel
theorem dM_not_88 : decode prog_7_method_31_code 88 = .ok (.ldc2_w 215, 3) := by decide +kernel
theorem dM_not_91 : decode prog_7_method_31_code 91 = .ok (.lxor, 1) := by decide +kernel
theorem dM_not_92 : decode prog_7_method_31_code 92 = .ok (.land, 1) := by decide +kernel
theorem dM_not_93 : decode prog_7_method_31_code 93 = .ok (.aload_n 0, 1) := by decide +kernel
theorem dM_not_94 : decode prog_7_method_31_code 94 = .ok (.getfield 55, 3) := by decide +kernel
theorem dM_not_97 : decode prog_7_method_31_code 97 = .ok (.iload_n 2, 1) := by decide +kernel
theorem dM_not_98 : decode prog_7_method_31_code 98 = .ok (.laload, 1) := by decide +kernel
theorem dM_not_99 : decode prog_7_method_31_code 99 = .ok (.land, 1) := by decide +kernel
theorem dM_not_100 : decode prog_7_method_31_code 100 = .ok (.lconst 0, 1) := by decide +kernel
theorem dM_not_101 : decode prog_7_method_31_code 101 = .ok (.lcmp, 1) := by decide +kernel
theorem dM_not_102 : decode prog_7_method_31_code 102 = .ok (.ifCond .ne 7, 3) := by decide +kernel
theorem dM_not_105 : decode prog_7_method_31_code 105 = .ok (.iconst 1, 1) := by decide +kernel
theorem dM_not_106 : decode prog_7_method_31_code 106 = .ok (.goto 4, 3) := by decide +kernel
theorem dM_not_109 : decode prog_7_method_31_code 109 = .ok (.iconst 0, 1) := by decide +kernel
theorem dM_not_110 : decode prog_7_method_31_code 110 = .ok (.aload_n 0, 1) := by decide +kernel
theorem dM_not_111 : decode prog_7_method_31_code 111 = .ok (.getfield 62, 3) := by decide +kernel
theorem dM_not_114 : decode prog_7_method_31_code 114 = .ok (.iload_n 2, 1) := by decide +kernel
theorem dM_not_115 : decode prog_7_method_31_code 115 = .ok (.laload, 1) := by decide +kernel
theorem dM_not_116 : decode prog_7_method_31_code 116 = .ok (.invokevirtual 211, 3) := by decide +kernel
theorem dM_not_119 : decode prog_7_method_31_code 119 = .ok (.iconst 1, 1) := by decide +kernel
theorem dM_not_120 : decode prog_7_method_31_code 120 = .ok (.ireturn, 1) := by decide +kernel
theorem dM_order_0 : decode prog_7_method_34_code 0 = .ok (.aload_n 0, 1) := by decide +kernel
theorem dM_order_1 : decode prog_7_method_34_code 1 = .ok (.iconst 0, 1) := by decide +kernel
theorem dM_order_2 : decode prog_7_method_34_code 2 = .ok (.putfield 115, 3) := by decide +kernel
theorem dM_order_5 : decode prog_7_method_34_code 5 = .ok (.aload_n 0, 1) := by decide +kernel
theorem dM_order_6 : decode prog_7_method_34_code 6 = .ok (.invokevirtual 135, 3) := by decide +kernel
theorem dM_order_9 : decode prog_7_method_34_code 9 = .ok (.aload_n 0, 1) := by decide +kernel
theorem dM_order_10 : decode prog_7_method_34_code 10 = .ok (.invokevirtual 217, 3) := by decide +kernel
theorem dM_order_13 : decode prog_7_method_34_code 13 = .ok (.aload_n 0, 1) := by decide +kernel
theorem dM_order_14 : decode prog_7_method_34_code 14 = .ok (.iconst 0, 1) := by decide +kernel
theorem dM_order_15 : decode prog_7_method_34_code 15 = .ok (.putfield 193, 3) := by decide +kernel
theorem dM_order_18 : decode prog_7_method_34_code 18 = .ok (.aload_n 0, 1) := by decide +kernel
theorem dM_order_19 : decode prog_7_method_34_code 19 = .ok (.iconst 0, 1) := by decide +kernel
theorem dM_order_20 : decode prog_7_method_34_code 20 = .ok (.putfield 186, 3) := by decide +kernel
theorem dM_order_23 : decode prog_7_method_34_code 23 = .ok (.aload_n 0, 1) := by decide +kernel
theorem dM_order_24 : decode prog_7_method_34_code 24 = .ok (.iconst 0, 1) := by decide +kernel
theorem dM_order_25 : decode prog_7_method_34_code 25 = .ok (.aload_n 0, 1) := by decide +kernel
theorem dM_order_26 : decode prog_7_method_34_code 26 = .ok (.getfield 124, 3) := by decide +kernel
theorem dM_order_29 : decode prog_7_method_34_code 29 = .ok (.invokevirtual 207, 3) := by decide +kernel
theorem dM_order_32 : decode prog_7_method_34_code 32 = .ok (.istore_n 1, 1) := by decide +kernel
theorem dM_order_33 : decode prog_7_method_34_code 33 = .ok (.iload_n 1, 1) := by decide +kernel
theorem dM_order_34 : decode prog_7_method_34_code 34 = .ok (.ifCond .eq 18, 3) := by decide +kernel
theorem dM_order_37 : decode prog_7_method_34_code 37 = .ok (.aload_n 0, 1) := by decide +kernel
theorem dM_order_38 : decode prog_7_method_34_code 38 = .ok (.getfield 193, 3) := by decide +kernel
theorem dM_order_41 : decode prog_7_method_34_code 41 = .ok (.ifCond .le 11, 3) := by decide +kernel
theorem dM_order_44 : decode prog_7_method_34_code 44 = .ok (.aload_n 0, 1) := by decide +kernel
theorem dM_order_45 : decode prog_7_method_34_code 45 = .ok (.invokevirtual 220, 3) := by decide +kernel
theorem dM_order_48 : decode prog_7_method_34_code 48 = .ok (.istore_n 1, 1) := by decide +kernel
theorem dM_order_49 : decode prog_7_method_34_code 49 = .ok (.goto (-16), 3) := by decide +kernel
theorem dM_order_52 : decode prog_7_method_34_code 52 = .ok (.iload_n 1, 1) := by decide +kernel
theorem dM_order_53 : decode prog_7_method_34_code 53 = .ok (.ifCond .ne 5, 3) := by decide +kernel
theorem dM_order_56 : decode prog_7_method_34_code 56 = .ok (.iconst 3, 1) := by decide +kernel
theorem dM_order_57 : decode prog_7_method_34_code 57 = .ok (.ireturn, 1) := by decide +kernel
theorem dM_order_58 : decode prog_7_method_34_code 58 = .ok (.aload_n 0, 1) := by decide +kernel
theorem dM_order_59 : decode prog_7_method_34_code 59 = .ok (.getfield 68, 3) := by decide +kernel
theorem dM_order_62 : decode prog_7_method_34_code 62 = .ok (.iconst 0, 1) := by decide +kernel
theorem dM_order_63 : decode prog_7_method_34_code 63 = .ok (.baload, 1) := by decide +kernel
theorem dM_order_64 : decode prog_7_method_34_code 64 = .ok (.ifCond .ne 13, 3) := by decide +kernel
theorem dM_order_67 : decode prog_7_method_34_code 67 = .ok (.aload_n 0, 1) := by decide +kernel
theorem dM_order_68 : decode prog_7_method_34_code 68 = .ok (.aload_n 0, 1) := by decide +kernel
theorem dM_order_69 : decode prog_7_method_34_code 69 = .ok (.invokevirtual 224, 3) := by decide +kernel
theorem dM_order_72 : decode prog_7_method_34_code 72 = .ok (.putfield 108, 3) := by decide +kernel
theorem dM_order_75 : decode prog_7_method_34_code 75 = .ok (.iconst 1, 1) := by decide +kernel
theorem dM_order_76 : decode prog_7_method_34_code 76 = .ok (.ireturn, 1) := by decide +kernel
theorem dM_order_77 : decode prog_7_method_34_code 77 = .ok (.iconst 0, 1) := by decide +kernel
theorem dM_order_78 : decode prog_7_method_34_code 78 = .ok (.istore_n 2, 1) := by decide +kernel
theorem dM_order_79 : decode prog_7_method_34_code 79 = .ok (.iload_n 2, 1) := by decide +kernel
theorem dM_order_80 : decode prog_7_method_34_code 80 = .ok (.bipush 60, 2) := by decide +kernel
theorem dM_order_82 : decode prog_7_method_34_code 82 = .ok (.if_icmp .ge 42, 3) := by decide +kernel
theorem dM_order_85 : decode prog_7_method_34_code 85 = .ok (.aload_n 0, 1) := by decide +kernel
theorem dM_order_86 : decode prog_7_method_34_code 86 = .ok (.aload_n 0, 1) := by decide +kernel
theorem dM_order_87 : decode prog_7_method_34_code 87 = .ok (.getfield 128, 3) := by decide +kernel
theorem dM_order_90 : decode prog_7_method_34_code 90 = .ok (.iload_n 2, 1) := by decide +kernel
theorem dM_order_91 : decode prog_7_method_34_code 91 = .ok (.invokevirtual 163, 3) := by decide +kernel
theorem dM_order_94 : decode prog_7_method_34_code 94 = .ok (.ifCond .eq 24, 3) := by decide +kernel
theorem dM_order_97 : decode prog_7_method_34_code 97 = .ok (.aload_n 0, 1) := by decide +kernel
theorem dM_order_98 : decode prog_7_method_34_code 98 = .ok (.aload_n 0, 1) := by decide +kernel
theorem dM_order_99 : decode prog_7_method_34_code 99 = .ok (.getfield 65, 3) := by decide +kernel
theorem dM_order_102 : decode prog_7_method_34_code 102 = .ok (.iconst 0, 1) := by decide +kernel
theorem dM_order_103 : decode prog_7_method_34_code 103 = .ok (.laload, 1) := by decide +kernel
theorem dM_order_104 : decode prog_7_method_34_code 104 = .ok (.iload_n 2, 1) := by decide +kernel
theorem dM_order_105 : decode prog_7_method_34_code 105 = .ok (.invokevirtual 163, 3) := by decide +kernel
theorem dM_order_108 : decode prog_7_method_34_code 108 = .ok (.ifCond .ne 10, 3) := by decide +kernel
theorem dM_order_111 : decode prog_7_method_34_code 111 = .ok (.aload_n 0, 1) := by decide +kernel
theorem dM_order_112 : decode prog_7_method_34_code 112 = .ok (.iload_n 2, 1) := by decide +kernel
theorem dM_order_113 : decode prog_7_method_34_code 113 = .ok (.putfield 108, 3) := by decide +kernel
theorem dM_order_116 : decode prog_7_method_34_code 116 = .ok (.iconst 2, 1) := by decide +kernel
theorem dM_order_117 : decode prog_7_method_34_code 117 = .ok (.ireturn, 1) := by decide +kernel
theorem dM_order_118 : decode prog_7_method_34_code 118 = .ok (.iinc 2 1, 3) := by decide +kernel
theorem dM_order_121 : decode prog_7_method_34_code 121 = .ok (.goto (-42), 3) := by decide +kernel
theorem dM_order_124 : decode prog_7_method_34_code 124 = .ok (.aload_n 0, 1) := by decide +kernel
theorem dM_order_125 : decode prog_7_method_34_code 125 = .ok (.iconst 1, 1) := by decide +kernel
theorem dM_order_126 : decode prog_7_method_34_code 126 = .ok (.putfield 138, 3) := by decide +kernel
theorem dM_order_129 : decode prog_7_method_34_code 129 = .ok (.iconst 0, 1) := by decide +kernel
theorem dM_order_130 : decode prog_7_method_34_code 130 = .ok (.ireturn, 1) := by decide +kernel
theorem dM_outer_0 : decode prog_7_method_40_code 0 = .ok (.aload_n 0, 1) := by decide +kernel
theorem dM_outer_1 : decode prog_7_method_40_code 1 = .ok (.iconst 0, 1) := by decide +kernel
theorem dM_outer_2 : decode prog_7_method_40_code 2 = .ok (.putfield 115, 3) := by decide +kernel
theorem dM_outer_5 : decode prog_7_method_40_code 5 = .ok (.aload_n 0, 1) := by decide +kernel
theorem dM_outer_6 : decode prog_7_method_40_code 6 = .ok (.iload_n 1, 1) := by decide +kernel
theorem dM_outer_7 : decode prog_7_method_40_code 7 = .ok (.invokevirtual 149, 3) := by decide +kernel
theorem dM_outer_10 : decode prog_7_method_40_code 10 = .ok (.ifCond .eq 10, 3) := by decide +kernel
theorem dM_outer_13 : decode prog_7_method_40_code 13 = .ok (.iload_n 2, 1) := by decide +kernel
theorem dM_outer_14 : decode prog_7_method_40_code 14 = .ok (.invokestatic 145, 3) := by decide +kernel
theorem dM_outer_17 : decode prog_7_method_40_code 17 = .ok (.ifCond .ne 5, 3) := by decide +kernel
theorem dM_outer_20 : decode prog_7_method_40_code 20 = .ok (.iconst 0, 1) := by decide +kernel
theorem dM_outer_21 : decode prog_7_method_40_code 21 = .ok (.ireturn, 1) := by decide +kernel
theorem dM_outer_22 : decode prog_7_method_40_code 22 = .ok (.aload_n 0, 1) := by decide +kernel
theorem dM_outer_23 : decode prog_7_method_40_code 23 = .ok (.invokevirtual 217, 3) := by decide +kernel
theorem dM_outer_26 : decode prog_7_method_40_code 26 = .ok (.aload_n 0, 1) := by decide +kernel
theorem dM_outer_27 : decode prog_7_method_40_code 27 = .ok (.aload_n 0, 1) := by decide +kernel
theorem dM_outer_28 : decode prog_7_method_40_code 28 = .ok (.getfield 55, 3) := by decide +kernel
theorem dM_outer_31 : decode prog_7_method_40_code 31 = .ok (.iload_n 1, 1) := by decide +kernel
theorem dM_outer_32 : decode prog_7_method_40_code 32 = .ok (.laload, 1) := by decide +kernel
theorem dM_outer_33 : decode prog_7_method_40_code 33 = .ok (.iload_n 2, 1) := by decide +kernel
theorem dM_outer_34 : decode prog_7_method_40_code 34 = .ok (.invokevirtual 163, 3) := by decide +kernel
theorem dM_outer_37 : decode prog_7_method_40_code 37 = .ok (.ireturn, 1) := by decide +kernel
theorem dM_part_0 : decode prog_7_method_36_code 0 = .ok (.aload_n 0, 1) := by decide +kernel
theorem dM_part_1 : decode prog_7_method_36_code 1 = .ok (.iconst 0, 1) := by decide +kernel
theorem dM_part_2 : decode prog_7_method_36_code 2 = .ok (.putfield 115, 3) := by decide +kernel
theorem dM_part_5 : decode prog_7_method_36_code 5 = .ok (.aload_n 0, 1) := by decide +kernel
theorem dM_part_6 : decode prog_7_method_36_code 6 = .ok (.getfield 138, 3) := by decide +kernel
theorem dM_part_9 : decode prog_7_method_36_code 9 = .ok (.ifCond .eq 25, 3) := by decide +kernel
theorem dM_part_12 : decode prog_7_method_36_code 12 = .ok (.aload_n 0, 1) := by decide +kernel
theorem dM_part_13 : decode prog_7_method_36_code 13 = .ok (.iload_n 1, 1) := by decide +kernel
theorem dM_part_14 : decode prog_7_method_36_code 14 = .ok (.invokevirtual 149, 3) := by decide +kernel
theorem dM_part_17 : decode prog_7_method_36_code 17 = .ok (.ifCond .eq 17, 3) := by decide +kernel
theorem dM_part_20 : decode prog_7_method_36_code 20 = .ok (.iload_n 2, 1) := by decide +kernel
theorem dM_part_21 : decode prog_7_method_36_code 21 = .ok (.ifCond .lt 13, 3) := by decide +kernel
theorem dM_part_24 : decode prog_7_method_36_code 24 = .ok (.iload_n 2, 1) := by decide +kernel
theorem dM_part_25 : decode prog_7_method_36_code 25 = .ok (.aload_n 0, 1) := by decide +kernel
theorem dM_part_26 : decode prog_7_method_36_code 26 = .ok (.getfield 28, 3) := by decide +kernel
theorem dM_part_29 : decode prog_7_method_36_code 29 = .ok (.iload_n 1, 1) := by decide +kernel
theorem dM_part_30 : decode prog_7_method_36_code 30 = .ok (.iaload, 1) := by decide +kernel
theorem dM_part_31 : decode prog_7_method_36_code 31 = .ok (.if_icmp .lt 5, 3) := by decide +kernel
theorem dM_part_34 : decode prog_7_method_36_code 34 = .ok (.iconst (-1), 1) := by decide +kernel
theorem dM_part_35 : decode prog_7_method_36_code 35 = .ok (.ireturn, 1) := by decide +kernel
theorem dM_part_36 : decode prog_7_method_36_code 36 = .ok (.aload_n 0, 1) := by decide +kernel
theorem dM_part_37 : decode prog_7_method_36_code 37 = .ok (.getfield 31, 3) := by decide +kernel
theorem dM_part_40 : decode prog_7_method_36_code 40 = .ok (.iload_n 1, 1) := by decide +kernel
theorem dM_part_41 : decode prog_7_method_36_code 41 = .ok (.iaload, 1) := by decide +kernel
theorem dM_part_42 : decode prog_7_method_36_code 42 = .ok (.istore_n 3, 1) := by decide +kernel
theorem dM_part_43 : decode prog_7_method_36_code 43 = .ok (.aload_n 0, 1) := by decide +kernel
theorem dM_part_44 : decode prog_7_method_36_code 44 = .ok (.getfield 19, 3) := by decide +kernel
theorem dM_part_47 : decode prog_7_method_36_code 47 = .ok (.iload_n 1, 1) := by decide +kernel
theorem dM_part_48 : decode prog_7_method_36_code 48 = .ok (.iaload, 1) := by decide +kernel
theorem dM_part_49 : decode prog_7_method_36_code 49 = .ok (.ifCond .ne 25, 3) := by decide +kernel
theorem dM_part_52 : decode prog_7_method_36_code 52 = .ok (.aload_n 0, 1) := by decide +kernel
theorem dM_part_53 : decode prog_7_method_36_code 53 = .ok (.getfield 75, 3) := by decide +kernel
theorem dM_part_56 : decode prog_7_method_36_code 56 = .ok (.iload_n 3, 1) := by decide +kernel
theorem dM_part_57 : decode prog_7_method_36_code 57 = .ok (.iaload, 1) := by decide +kernel
theorem dM_part_58 : decode prog_7_method_36_code 58 = .ok (.iload_n 2, 1) := by decide +kernel
theorem dM_part_59 : decode prog_7_method_36_code 59 = .ok (.if_icmp .eq 13, 3) := by decide +kernel
theorem dM_part_62 : decode prog_7_method_36_code 62 = .ok (.aload_n 0, 1) := by decide +kernel
theorem dM_part_63 : decode prog_7_method_36_code 63 = .ok (.getfield 37, 3) := by decide +kernel
theorem dM_part_66 : decode prog_7_method_36_code 66 = .ok (.iload_n 3, 1) := by decide +kernel
theorem dM_part_67 : decode prog_7_method_36_code 67 = .ok (.iaload, 1) := by decide +kernel
theorem dM_part_68 : decode prog_7_method_36_code 68 = .ok (.istore_n 3, 1) := by decide +kernel
theorem dM_part_69 : decode prog_7_method_36_code 69 = .ok (.goto (-17), 3) := by decide +kernel
theorem dM_part_72 : decode prog_7_method_36_code 72 = .ok (.iload_n 3, 1) := by decide +kernel
theorem dM_part_73 : decode prog_7_method_36_code 73 = .ok (.ireturn, 1) := by decide +kernel
theorem dM_part_74 : decode prog_7_method_36_code 74 = .ok (.iconst 0, 1) := by decide +kernel
theorem dM_part_75 : decode prog_7_method_36_code 75 = .ok (.istore 4, 2) := by decide +kernel
theorem dM_part_77 : decode prog_7_method_36_code 77 = .ok (.iload 4, 2) := by decide +kernel
theorem dM_part_79 : decode prog_7_method_36_code 79 = .ok (.iload_n 2, 1) := by decide +kernel
theorem dM_part_80 : decode prog_7_method_36_code 80 = .ok (.if_icmp .ge 16, 3) := by decide +kernel
theorem dM_part_83 : decode prog_7_method_36_code 83 = .ok (.aload_n 0, 1) := by decide +kernel
theorem dM_part_84 : decode prog_7_method_36_code 84 = .ok (.getfield 37, 3) := by decide +kernel
theorem dM_part_87 : decode prog_7_method_36_code 87 = .ok (.iload_n 3, 1) := by decide +kernel
theorem dM_part_88 : decode prog_7_method_36_code 88 = .ok (.iaload, 1) := by decide +kernel
theorem dM_part_89 : decode prog_7_method_36_code 89 = .ok (.istore_n 3, 1) := by decide +kernel
theorem dM_part_90 : decode prog_7_method_36_code 90 = .ok (.iinc 4 1, 3) := by decide +kernel
theorem dM_part_93 : decode prog_7_method_36_code 93 = .ok (.goto (-16), 3) := by decide +kernel
theorem dM_part_96 : decode prog_7_method_36_code 96 = .ok (.iload_n 3, 1) := by decide +kernel
theorem dM_part_97 : decode prog_7_method_36_code 97 = .ok (.ireturn, 1) := by decide +kernel
theorem dM_predicate_0 : decode prog_7_method_5_code 0 = .ok (.aload_n 0, 1) := by decide +kernel
theorem dM_predicate_1 : decode prog_7_method_5_code 1 = .ok (.iconst 0, 1) := by decide +kernel
theorem dM_predicate_2 : decode prog_7_method_5_code 2 = .ok (.putfield 115, 3) := by decide +kernel
theorem dM_predicate_5 : decode prog_7_method_5_code 5 = .ok (.aload_n 0, 1) := by decide +kernel
theorem dM_predicate_6 : decode prog_7_method_5_code 6 = .ok (.getfield 142, 3) := by decide +kernel
theorem dM_predicate_9 : decode prog_7_method_5_code 9 = .ok (.bipush 60, 2) := by decide +kernel
theorem dM_predicate_11 : decode prog_7_method_5_code 11 = .ok (.if_icmp .eq 13, 3) := by decide +kernel
theorem dM_predicate_14 : decode prog_7_method_5_code 14 = .ok (.iload_n 1, 1) := by decide +kernel
theorem dM_predicate_15 : decode prog_7_method_5_code 15 = .ok (.ifCond .lt 9, 3) := by decide +kernel
theorem dM_predicate_18 : decode prog_7_method_5_code 18 = .ok (.iload_n 1, 1) := by decide +kernel
theorem dM_predicate_19 : decode prog_7_method_5_code 19 = .ok (.bipush 6, 2) := by decide +kernel
theorem dM_predicate_21 : decode prog_7_method_5_code 21 = .ok (.if_icmp .le 5, 3) := by decide +kernel
theorem dM_predicate_24 : decode prog_7_method_5_code 24 = .ok (.iconst (-1), 1) := by decide +kernel
theorem dM_predicate_25 : decode prog_7_method_5_code 25 = .ok (.ireturn, 1) := by decide +kernel
theorem dM_predicate_26 : decode prog_7_method_5_code 26 = .ok (.aload_n 0, 1) := by decide +kernel
theorem dM_predicate_27 : decode prog_7_method_5_code 27 = .ok (.getfield 7, 3) := by decide +kernel
theorem dM_predicate_30 : decode prog_7_method_5_code 30 = .ok (.aload_n 0, 1) := by decide +kernel
theorem dM_predicate_31 : decode prog_7_method_5_code 31 = .ok (.getfield 142, 3) := by decide +kernel
theorem dM_predicate_34 : decode prog_7_method_5_code 34 = .ok (.iload_n 1, 1) := by decide +kernel
theorem dM_predicate_35 : decode prog_7_method_5_code 35 = .ok (.iastore, 1) := by decide +kernel
theorem dM_predicate_36 : decode prog_7_method_5_code 36 = .ok (.aload_n 0, 1) := by decide +kernel
theorem dM_predicate_37 : decode prog_7_method_5_code 37 = .ok (.getfield 13, 3) := by decide +kernel
theorem dM_predicate_40 : decode prog_7_method_5_code 40 = .ok (.aload_n 0, 1) := by decide +kernel
theorem dM_predicate_41 : decode prog_7_method_5_code 41 = .ok (.getfield 142, 3) := by decide +kernel
theorem dM_predicate_44 : decode prog_7_method_5_code 44 = .ok (.iconst 0, 1) := by decide +kernel
theorem dM_predicate_45 : decode prog_7_method_5_code 45 = .ok (.iastore, 1) := by decide +kernel
theorem dM_predicate_46 : decode prog_7_method_5_code 46 = .ok (.aload_n 0, 1) := by decide +kernel
theorem dM_predicate_47 : decode prog_7_method_5_code 47 = .ok (.dup, 1) := by decide +kernel
theorem dM_predicate_48 : decode prog_7_method_5_code 48 = .ok (.getfield 142, 3) := by decide +kernel
theorem dM_predicate_51 : decode prog_7_method_5_code 51 = .ok (.iconst 1, 1) := by decide +kernel
theorem dM_predicate_52 : decode prog_7_method_5_code 52 = .ok (.iadd, 1) := by decide +kernel
theorem dM_predicate_53 : decode prog_7_method_5_code 53 = .ok (.putfield 142, 3) := by decide +kernel
theorem dM_predicate_56 : decode prog_7_method_5_code 56 = .ok (.aload_n 0, 1) := by decide +kernel
theorem dM_predicate_57 : decode prog_7_method_5_code 57 = .ok (.getfield 142, 3) := by decide +kernel
theorem dM_predicate_60 : decode prog_7_method_5_code 60 = .ok (.iconst 1, 1) := by decide +kernel
theorem dM_predicate_61 : decode prog_7_method_5_code 61 = .ok (.isub, 1) := by decide +kernel
theorem dM_predicate_62 : decode prog_7_method_5_code 62 = .ok (.ireturn, 1) := by decide +kernel
theorem dM_put_0 : decode prog_7_method_9_code 0 = .ok (.aload_n 0, 1) := by decide +kernel
theorem dM_put_1 : decode prog_7_method_9_code 1 = .ok (.iconst 0, 1) := by decide +kernel
theorem dM_put_2 : decode prog_7_method_9_code 2 = .ok (.putfield 115, 3) := by decide +kernel
theorem dM_put_5 : decode prog_7_method_9_code 5 = .ok (.aload_n 0, 1) := by decide +kernel
theorem dM_put_6 : decode prog_7_method_9_code 6 = .ok (.getfield 121, 3) := by decide +kernel
theorem dM_put_9 : decode prog_7_method_9_code 9 = .ok (.bipush 7, 2) := by decide +kernel
theorem dM_put_11 : decode prog_7_method_9_code 11 = .ok (.if_icmp .eq 10, 3) := by decide +kernel
theorem dM_put_14 : decode prog_7_method_9_code 14 = .ok (.iload_n 1, 1) := by decide +kernel
theorem dM_put_15 : decode prog_7_method_9_code 15 = .ok (.invokestatic 145, 3) := by decide +kernel
theorem dM_put_18 : decode prog_7_method_9_code 18 = .ok (.ifCond .ne 5, 3) := by decide +kernel
theorem dM_put_21 : decode prog_7_method_9_code 21 = .ok (.iconst 0, 1) := by decide +kernel
theorem dM_put_22 : decode prog_7_method_9_code 22 = .ok (.ireturn, 1) := by decide +kernel
theorem dM_put_23 : decode prog_7_method_9_code 23 = .ok (.aload_n 0, 1) := by decide +kernel
theorem dM_put_24 : decode prog_7_method_9_code 24 = .ok (.getfield 49, 3) := by decide +kernel
theorem dM_put_27 : decode prog_7_method_9_code 27 = .ok (.aload_n 0, 1) := by decide +kernel
theorem dM_put_28 : decode prog_7_method_9_code 28 = .ok (.getfield 121, 3) := by decide +kernel
theorem dM_put_31 : decode prog_7_method_9_code 31 = .ok (.iload_n 1, 1) := by decide +kernel
theorem dM_put_32 : decode prog_7_method_9_code 32 = .ok (.iastore, 1) := by decide +kernel
theorem dM_put_33 : decode prog_7_method_9_code 33 = .ok (.aload_n 0, 1) := by decide +kernel
theorem dM_put_34 : decode prog_7_method_9_code 34 = .ok (.dup, 1) := by decide +kernel
theorem dM_put_35 : decode prog_7_method_9_code 35 = .ok (.getfield 121, 3) := by decide +kernel
theorem dM_put_38 : decode prog_7_method_9_code 38 = .ok (.iconst 1, 1) := by decide +kernel
theorem dM_put_39 : decode prog_7_method_9_code 39 = .ok (.iadd, 1) := by decide +kernel
theorem dM_put_40 : decode prog_7_method_9_code 40 = .ok (.putfield 121, 3) := by decide +kernel
theorem dM_put_43 : decode prog_7_method_9_code 43 = .ok (.iconst 1, 1) := by decide +kernel
theorem dM_put_44 : decode prog_7_method_9_code 44 = .ok (.ireturn, 1) := by decide +kernel
