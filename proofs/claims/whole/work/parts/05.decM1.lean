theorem dM_add_0 : decode prog_7_method_14_code 0 = .ok (.aload_n 0, 1) := by decide +kernel
theorem dM_add_1 : decode prog_7_method_14_code 1 = .ok (.iconst 0, 1) := by decide +kernel
theorem dM_add_2 : decode prog_7_method_14_code 2 = .ok (.putfield 115, 3) := by decide +kernel
theorem dM_add_5 : decode prog_7_method_14_code 5 = .ok (.aload_n 0, 1) := by decide +kernel
theorem dM_add_6 : decode prog_7_method_14_code 6 = .ok (.iload_n 1, 1) := by decide +kernel
theorem dM_add_7 : decode prog_7_method_14_code 7 = .ok (.invokevirtual 152, 3) := by decide +kernel
theorem dM_add_10 : decode prog_7_method_14_code 10 = .ok (.ifCond .eq 26, 3) := by decide +kernel
theorem dM_add_13 : decode prog_7_method_14_code 13 = .ok (.iload_n 2, 1) := by decide +kernel
theorem dM_add_14 : decode prog_7_method_14_code 14 = .ok (.ifCond .lt 22, 3) := by decide +kernel
theorem dM_add_17 : decode prog_7_method_14_code 17 = .ok (.iload_n 2, 1) := by decide +kernel
theorem dM_add_18 : decode prog_7_method_14_code 18 = .ok (.bipush 13, 2) := by decide +kernel
theorem dM_add_20 : decode prog_7_method_14_code 20 = .ok (.if_icmp .ge 16, 3) := by decide +kernel
theorem dM_add_23 : decode prog_7_method_14_code 23 = .ok (.aload_n 0, 1) := by decide +kernel
theorem dM_add_24 : decode prog_7_method_14_code 24 = .ok (.iload_n 2, 1) := by decide +kernel
theorem dM_add_25 : decode prog_7_method_14_code 25 = .ok (.iload_n 3, 1) := by decide +kernel
theorem dM_add_26 : decode prog_7_method_14_code 26 = .ok (.invokevirtual 155, 3) := by decide +kernel
theorem dM_add_29 : decode prog_7_method_14_code 29 = .ok (.ifCond .eq 7, 3) := by decide +kernel
theorem dM_add_32 : decode prog_7_method_14_code 32 = .ok (.iconst 1, 1) := by decide +kernel
theorem dM_add_33 : decode prog_7_method_14_code 33 = .ok (.goto 4, 3) := by decide +kernel
theorem dM_add_36 : decode prog_7_method_14_code 36 = .ok (.iconst 0, 1) := by decide +kernel
theorem dM_add_37 : decode prog_7_method_14_code 37 = .ok (.istore 4, 2) := by decide +kernel
theorem dM_add_39 : decode prog_7_method_14_code 39 = .ok (.iload 4, 2) := by decide +kernel
theorem dM_add_41 : decode prog_7_method_14_code 41 = .ok (.ifCond .eq 12, 3) := by decide +kernel
theorem dM_add_44 : decode prog_7_method_14_code 44 = .ok (.aload_n 0, 1) := by decide +kernel
theorem dM_add_45 : decode prog_7_method_14_code 45 = .ok (.iload_n 1, 1) := by decide +kernel
theorem dM_add_46 : decode prog_7_method_14_code 46 = .ok (.iload_n 2, 1) := by decide +kernel
theorem dM_add_47 : decode prog_7_method_14_code 47 = .ok (.invokevirtual 131, 3) := by decide +kernel
theorem dM_add_50 : decode prog_7_method_14_code 50 = .ok (.goto 4, 3) := by decide +kernel
theorem dM_add_53 : decode prog_7_method_14_code 53 = .ok (.iconst (-1), 1) := by decide +kernel
theorem dM_add_54 : decode prog_7_method_14_code 54 = .ok (.istore 5, 2) := by decide +kernel
theorem dM_add_56 : decode prog_7_method_14_code 56 = .ok (.iload 4, 2) := by decide +kernel
theorem dM_add_58 : decode prog_7_method_14_code 58 = .ok (.ifCond .eq 17, 3) := by decide +kernel
theorem dM_add_61 : decode prog_7_method_14_code 61 = .ok (.iload_n 2, 1) := by decide +kernel
theorem dM_add_62 : decode prog_7_method_14_code 62 = .ok (.bipush 12, 2) := by decide +kernel
theorem dM_add_64 : decode prog_7_method_14_code 64 = .ok (.if_icmp .ne 11, 3) := by decide +kernel
theorem dM_add_67 : decode prog_7_method_14_code 67 = .ok (.aload_n 0, 1) := by decide +kernel
theorem dM_add_68 : decode prog_7_method_14_code 68 = .ok (.getfield 40, 3) := by decide +kernel
theorem dM_add_71 : decode prog_7_method_14_code 71 = .ok (.iload 5, 2) := by decide +kernel
theorem dM_add_73 : decode prog_7_method_14_code 73 = .ok (.iload_n 3, 1) := by decide +kernel
theorem dM_add_74 : decode prog_7_method_14_code 74 = .ok (.iastore, 1) := by decide +kernel
theorem dM_add_75 : decode prog_7_method_14_code 75 = .ok (.iload 4, 2) := by decide +kernel
theorem dM_add_77 : decode prog_7_method_14_code 77 = .ok (.ifCond .eq 7, 3) := by decide +kernel
theorem dM_add_80 : decode prog_7_method_14_code 80 = .ok (.aload_n 0, 1) := by decide +kernel
theorem dM_add_81 : decode prog_7_method_14_code 81 = .ok (.invokevirtual 135, 3) := by decide +kernel
theorem dM_add_84 : decode prog_7_method_14_code 84 = .ok (.aload_n 0, 1) := by decide +kernel
theorem dM_add_85 : decode prog_7_method_14_code 85 = .ok (.iconst 0, 1) := by decide +kernel
theorem dM_add_86 : decode prog_7_method_14_code 86 = .ok (.putfield 121, 3) := by decide +kernel
theorem dM_add_89 : decode prog_7_method_14_code 89 = .ok (.iload 5, 2) := by decide +kernel
theorem dM_add_91 : decode prog_7_method_14_code 91 = .ok (.ireturn, 1) := by decide +kernel
theorem dM_areIn_0 : decode prog_7_method_20_code 0 = .ok (.lload_n 3, 1) := by decide +kernel
theorem dM_areIn_1 : decode prog_7_method_20_code 1 = .ok (.lload_n 1, 1) := by decide +kernel
theorem dM_areIn_2 : decode prog_7_method_20_code 2 = .ok (.land, 1) := by decide +kernel
theorem dM_areIn_3 : decode prog_7_method_20_code 3 = .ok (.lload_n 3, 1) := by decide +kernel
theorem dM_areIn_4 : decode prog_7_method_20_code 4 = .ok (.lcmp, 1) := by decide +kernel
theorem dM_areIn_5 : decode prog_7_method_20_code 5 = .ok (.ifCond .ne 7, 3) := by decide +kernel
theorem dM_areIn_8 : decode prog_7_method_20_code 8 = .ok (.iconst 1, 1) := by decide +kernel
theorem dM_areIn_9 : decode prog_7_method_20_code 9 = .ok (.goto 4, 3) := by decide +kernel
theorem dM_areIn_12 : decode prog_7_method_20_code 12 = .ok (.iconst 0, 1) := by decide +kernel
theorem dM_areIn_13 : decode prog_7_method_20_code 13 = .ok (.ireturn, 1) := by decide +kernel
theorem dM_atom_0 : decode prog_7_method_22_code 0 = .ok (.aload_n 0, 1) := by decide +kernel
theorem dM_atom_1 : decode prog_7_method_22_code 1 = .ok (.getfield 62, 3) := by decide +kernel
theorem dM_atom_4 : decode prog_7_method_22_code 4 = .ok (.iload_n 1, 1) := by decide +kernel
theorem dM_atom_5 : decode prog_7_method_22_code 5 = .ok (.laload, 1) := by decide +kernel
theorem dM_atom_6 : decode prog_7_method_22_code 6 = .ok (.lstore_n 2, 1) := by decide +kernel
theorem dM_atom_7 : decode prog_7_method_22_code 7 = .ok (.aload_n 0, 1) := by decide +kernel
theorem dM_atom_8 : decode prog_7_method_22_code 8 = .ok (.getfield 68, 3) := by decide +kernel
theorem dM_atom_11 : decode prog_7_method_22_code 11 = .ok (.iload_n 1, 1) := by decide +kernel
theorem dM_atom_12 : decode prog_7_method_22_code 12 = .ok (.iconst 0, 1) := by decide +kernel
theorem dM_atom_13 : decode prog_7_method_22_code 13 = .ok (.bastore, 1) := by decide +kernel
theorem dM_atom_14 : decode prog_7_method_22_code 14 = .ok (.aload_n 0, 1) := by decide +kernel
theorem dM_atom_15 : decode prog_7_method_22_code 15 = .ok (.getfield 81, 3) := by decide +kernel
theorem dM_atom_18 : decode prog_7_method_22_code 18 = .ok (.iload_n 1, 1) := by decide +kernel
theorem dM_atom_19 : decode prog_7_method_22_code 19 = .ok (.iconst 0, 1) := by decide +kernel
theorem dM_atom_20 : decode prog_7_method_22_code 20 = .ok (.iastore, 1) := by decide +kernel
theorem dM_atom_21 : decode prog_7_method_22_code 21 = .ok (.aload_n 0, 1) := by decide +kernel
theorem dM_atom_22 : decode prog_7_method_22_code 22 = .ok (.getfield 43, 3) := by decide +kernel
theorem dM_atom_25 : decode prog_7_method_22_code 25 = .ok (.iload_n 1, 1) := by decide +kernel
theorem dM_atom_26 : decode prog_7_method_22_code 26 = .ok (.iaload, 1) := by decide +kernel
theorem dM_atom_27 : decode prog_7_method_22_code 27 = .ok (.ifCond .le 15, 3) := by decide +kernel
theorem dM_atom_30 : decode prog_7_method_22_code 30 = .ok (.aload_n 0, 1) := by decide +kernel
theorem dM_atom_31 : decode prog_7_method_22_code 31 = .ok (.getfield 46, 3) := by decide +kernel
theorem dM_atom_34 : decode prog_7_method_22_code 34 = .ok (.bipush 7, 2) := by decide +kernel
theorem dM_atom_36 : decode prog_7_method_22_code 36 = .ok (.iload_n 1, 1) := by decide +kernel
theorem dM_atom_37 : decode prog_7_method_22_code 37 = .ok (.imul, 1) := by decide +kernel
theorem dM_atom_38 : decode prog_7_method_22_code 38 = .ok (.iaload, 1) := by decide +kernel
theorem dM_atom_39 : decode prog_7_method_22_code 39 = .ok (.goto 4, 3) := by decide +kernel
theorem dM_atom_42 : decode prog_7_method_22_code 42 = .ok (.iconst 0, 1) := by decide +kernel
theorem dM_atom_43 : decode prog_7_method_22_code 43 = .ok (.istore 4, 2) := by decide +kernel
theorem dM_atom_45 : decode prog_7_method_22_code 45 = .ok (.aload_n 0, 1) := by decide +kernel
theorem dM_atom_46 : decode prog_7_method_22_code 46 = .ok (.lload_n 2, 1) := by decide +kernel
theorem dM_atom_47 : decode prog_7_method_22_code 47 = .ok (.iload 4, 2) := by decide +kernel
theorem dM_atom_49 : decode prog_7_method_22_code 49 = .ok (.invokevirtual 163, 3) := by decide +kernel
theorem dM_atom_52 : decode prog_7_method_22_code 52 = .ok (.istore 5, 2) := by decide +kernel
theorem dM_atom_54 : decode prog_7_method_22_code 54 = .ok (.aload_n 0, 1) := by decide +kernel
theorem dM_atom_55 : decode prog_7_method_22_code 55 = .ok (.getfield 19, 3) := by decide +kernel
theorem dM_atom_58 : decode prog_7_method_22_code 58 = .ok (.iload_n 1, 1) := by decide +kernel
theorem dM_atom_59 : decode prog_7_method_22_code 59 = .ok (.iaload, 1) := by decide +kernel
theorem dM_atom_60 : decode prog_7_method_22_code 60 = .ok (.tableswitch 224 4 11 #[48, 48, 58, 80, 104, 162, 186, 80], 48) := by decide +kernel
theorem dM_atom_108 : decode prog_7_method_22_code 108 = .ok (.aload_n 0, 1) := by decide +kernel
theorem dM_atom_109 : decode prog_7_method_22_code 109 = .ok (.iload_n 1, 1) := by decide +kernel
theorem dM_atom_110 : decode prog_7_method_22_code 110 = .ok (.iconst 0, 1) := by decide +kernel
theorem dM_atom_111 : decode prog_7_method_22_code 111 = .ok (.lload_n 2, 1) := by decide +kernel
theorem dM_atom_112 : decode prog_7_method_22_code 112 = .ok (.invokevirtual 167, 3) := by decide +kernel
theorem dM_atom_115 : decode prog_7_method_22_code 115 = .ok (.goto 175, 3) := by decide +kernel
theorem dM_atom_118 : decode prog_7_method_22_code 118 = .ok (.aload_n 0, 1) := by decide +kernel
theorem dM_atom_119 : decode prog_7_method_22_code 119 = .ok (.iload_n 1, 1) := by decide +kernel
theorem dM_atom_120 : decode prog_7_method_22_code 120 = .ok (.iload 4, 2) := by decide +kernel
theorem dM_atom_122 : decode prog_7_method_22_code 122 = .ok (.aload_n 0, 1) := by decide +kernel
theorem dM_atom_123 : decode prog_7_method_22_code 123 = .ok (.getfield 46, 3) := by decide +kernel
theorem dM_atom_126 : decode prog_7_method_22_code 126 = .ok (.bipush 7, 2) := by decide +kernel
theorem dM_atom_128 : decode prog_7_method_22_code 128 = .ok (.iload_n 1, 1) := by decide +kernel
theorem dM_atom_129 : decode prog_7_method_22_code 129 = .ok (.imul, 1) := by decide +kernel
theorem dM_atom_130 : decode prog_7_method_22_code 130 = .ok (.iconst 1, 1) := by decide +kernel
theorem dM_atom_131 : decode prog_7_method_22_code 131 = .ok (.iadd, 1) := by decide +kernel
theorem dM_atom_132 : decode prog_7_method_22_code 132 = .ok (.iaload, 1) := by decide +kernel
theorem dM_atom_133 : decode prog_7_method_22_code 133 = .ok (.lload_n 2, 1) := by decide +kernel
theorem dM_atom_134 : decode prog_7_method_22_code 134 = .ok (.invokevirtual 171, 3) := by decide +kernel
theorem dM_atom_137 : decode prog_7_method_22_code 137 = .ok (.goto 153, 3) := by decide +kernel
theorem dM_atom_140 : decode prog_7_method_22_code 140 = .ok (.aload_n 0, 1) := by decide +kernel
theorem dM_atom_141 : decode prog_7_method_22_code 141 = .ok (.lload_n 2, 1) := by decide +kernel
theorem dM_atom_142 : decode prog_7_method_22_code 142 = .ok (.aload_n 0, 1) := by decide +kernel
theorem dM_atom_143 : decode prog_7_method_22_code 143 = .ok (.iload_n 1, 1) := by decide +kernel
theorem dM_atom_144 : decode prog_7_method_22_code 144 = .ok (.iconst 0, 1) := by decide +kernel
theorem dM_atom_145 : decode prog_7_method_22_code 145 = .ok (.invokevirtual 159, 3) := by decide +kernel
theorem dM_atom_148 : decode prog_7_method_22_code 148 = .ok (.invokevirtual 175, 3) := by decide +kernel
theorem dM_atom_151 : decode prog_7_method_22_code 151 = .ok (.ifCond .eq 139, 3) := by decide +kernel
theorem dM_atom_154 : decode prog_7_method_22_code 154 = .ok (.aload_n 0, 1) := by decide +kernel
theorem dM_atom_155 : decode prog_7_method_22_code 155 = .ok (.iload_n 1, 1) := by decide +kernel
theorem dM_atom_156 : decode prog_7_method_22_code 156 = .ok (.iconst 1, 1) := by decide +kernel
theorem dM_atom_157 : decode prog_7_method_22_code 157 = .ok (.lload_n 2, 1) := by decide +kernel
theorem dM_atom_158 : decode prog_7_method_22_code 158 = .ok (.invokevirtual 167, 3) := by decide +kernel
theorem dM_atom_161 : decode prog_7_method_22_code 161 = .ok (.goto 129, 3) := by decide +kernel
theorem dM_atom_164 : decode prog_7_method_22_code 164 = .ok (.iload 5, 2) := by decide +kernel
theorem dM_atom_166 : decode prog_7_method_22_code 166 = .ok (.ifCond .eq 27, 3) := by decide +kernel
theorem dM_atom_169 : decode prog_7_method_22_code 169 = .ok (.aload_n 0, 1) := by decide +kernel
theorem dM_atom_170 : decode prog_7_method_22_code 170 = .ok (.iload_n 1, 1) := by decide +kernel
theorem dM_atom_171 : decode prog_7_method_22_code 171 = .ok (.iconst 1, 1) := by decide +kernel
theorem dM_atom_172 : decode prog_7_method_22_code 172 = .ok (.lload_n 2, 1) := by decide +kernel
theorem dM_atom_173 : decode prog_7_method_22_code 173 = .ok (.aload_n 0, 1) := by decide +kernel
theorem dM_atom_174 : decode prog_7_method_22_code 174 = .ok (.iload_n 1, 1) := by decide +kernel
theorem dM_atom_175 : decode prog_7_method_22_code 175 = .ok (.iconst 1, 1) := by decide +kernel
theorem dM_atom_176 : decode prog_7_method_22_code 176 = .ok (.invokevirtual 159, 3) := by decide +kernel
theorem dM_atom_179 : decode prog_7_method_22_code 179 = .ok (.lor, 1) := by decide +kernel
theorem dM_atom_180 : decode prog_7_method_22_code 180 = .ok (.invokevirtual 167, 3) := by decide +kernel
theorem dM_atom_183 : decode prog_7_method_22_code 183 = .ok (.aload_n 0, 1) := by decide +kernel
theorem dM_atom_184 : decode prog_7_method_22_code 184 = .ok (.iload_n 1, 1) := by decide +kernel
theorem dM_atom_185 : decode prog_7_method_22_code 185 = .ok (.iconst 0, 1) := by decide +kernel
theorem dM_atom_186 : decode prog_7_method_22_code 186 = .ok (.lload_n 2, 1) := by decide +kernel
theorem dM_atom_187 : decode prog_7_method_22_code 187 = .ok (.invokevirtual 179, 3) := by decide +kernel
theorem dM_atom_190 : decode prog_7_method_22_code 190 = .ok (.goto 100, 3) := by decide +kernel
theorem dM_atom_193 : decode prog_7_method_22_code 193 = .ok (.aload_n 0, 1) := by decide +kernel
theorem dM_atom_194 : decode prog_7_method_22_code 194 = .ok (.lload_n 2, 1) := by decide +kernel
theorem dM_atom_195 : decode prog_7_method_22_code 195 = .ok (.aload_n 0, 1) := by decide +kernel
theorem dM_atom_196 : decode prog_7_method_22_code 196 = .ok (.iload_n 1, 1) := by decide +kernel
theorem dM_atom_197 : decode prog_7_method_22_code 197 = .ok (.iconst 1, 1) := by decide +kernel
theorem dM_atom_198 : decode prog_7_method_22_code 198 = .ok (.invokevirtual 159, 3) := by decide +kernel
theorem dM_atom_201 : decode prog_7_method_22_code 201 = .ok (.invokevirtual 175, 3) := by decide +kernel
theorem dM_atom_204 : decode prog_7_method_22_code 204 = .ok (.ifCond .eq 86, 3) := by decide +kernel
theorem dM_atom_207 : decode prog_7_method_22_code 207 = .ok (.aload_n 0, 1) := by decide +kernel
theorem dM_atom_208 : decode prog_7_method_22_code 208 = .ok (.iload_n 1, 1) := by decide +kernel
theorem dM_atom_209 : decode prog_7_method_22_code 209 = .ok (.iconst 2, 1) := by decide +kernel
theorem dM_atom_210 : decode prog_7_method_22_code 210 = .ok (.lload_n 2, 1) := by decide +kernel
theorem dM_atom_211 : decode prog_7_method_22_code 211 = .ok (.lconst 1, 1) := by decide +kernel
theorem dM_atom_212 : decode prog_7_method_22_code 212 = .ok (.iload 4, 2) := by decide +kernel
theorem dM_atom_214 : decode prog_7_method_22_code 214 = .ok (.lshl, 1) := by decide +kernel
theorem dM_atom_215 : decode prog_7_method_22_code 215 = .ok (.lor, 1) := by decide +kernel
theorem dM_atom_216 : decode prog_7_method_22_code 216 = .ok (.invokevirtual 167, 3) := by decide +kernel
theorem dM_atom_219 : decode prog_7_method_22_code 219 = .ok (.goto 71, 3) := by decide +kernel
theorem dM_atom_222 : decode prog_7_method_22_code 222 = .ok (.aload_n 0, 1) := by decide +kernel
theorem dM_atom_223 : decode prog_7_method_22_code 223 = .ok (.iload_n 1, 1) := by decide +kernel
theorem dM_atom_224 : decode prog_7_method_22_code 224 = .ok (.iload 5, 2) := by decide +kernel
theorem dM_atom_226 : decode prog_7_method_22_code 226 = .ok (.ifCond .eq 7, 3) := by decide +kernel
theorem dM_atom_229 : decode prog_7_method_22_code 229 = .ok (.iconst 1, 1) := by decide +kernel
theorem dM_atom_230 : decode prog_7_method_22_code 230 = .ok (.goto 4, 3) := by decide +kernel
theorem dM_atom_233 : decode prog_7_method_22_code 233 = .ok (.iconst 2, 1) := by decide +kernel
theorem dM_atom_234 : decode prog_7_method_22_code 234 = .ok (.lload_n 2, 1) := by decide +kernel
theorem dM_atom_235 : decode prog_7_method_22_code 235 = .ok (.lconst 1, 1) := by decide +kernel
theorem dM_atom_236 : decode prog_7_method_22_code 236 = .ok (.iload 4, 2) := by decide +kernel
theorem dM_atom_238 : decode prog_7_method_22_code 238 = .ok (.lshl, 1) := by decide +kernel
theorem dM_atom_239 : decode prog_7_method_22_code 239 = .ok (.lor, 1) := by decide +kernel
theorem dM_atom_240 : decode prog_7_method_22_code 240 = .ok (.invokevirtual 167, 3) := by decide +kernel
theorem dM_atom_243 : decode prog_7_method_22_code 243 = .ok (.goto 47, 3) := by decide +kernel
theorem dM_atom_246 : decode prog_7_method_22_code 246 = .ok (.aload_n 0, 1) := by decide +kernel
theorem dM_atom_247 : decode prog_7_method_22_code 247 = .ok (.lload_n 2, 1) := by decide +kernel
theorem dM_atom_248 : decode prog_7_method_22_code 248 = .ok (.aload_n 0, 1) := by decide +kernel
theorem dM_atom_249 : decode prog_7_method_22_code 249 = .ok (.iload_n 1, 1) := by decide +kernel
theorem dM_atom_250 : decode prog_7_method_22_code 250 = .ok (.iconst 1, 1) := by decide +kernel
theorem dM_atom_251 : decode prog_7_method_22_code 251 = .ok (.invokevirtual 159, 3) := by decide +kernel
theorem dM_atom_254 : decode prog_7_method_22_code 254 = .ok (.invokevirtual 175, 3) := by decide +kernel
theorem dM_atom_257 : decode prog_7_method_22_code 257 = .ok (.ifCond .eq 33, 3) := by decide +kernel
theorem dM_atom_260 : decode prog_7_method_22_code 260 = .ok (.aload_n 0, 1) := by decide +kernel
theorem dM_atom_261 : decode prog_7_method_22_code 261 = .ok (.iload_n 1, 1) := by decide +kernel
theorem dM_atom_262 : decode prog_7_method_22_code 262 = .ok (.iload 5, 2) := by decide +kernel
theorem dM_atom_264 : decode prog_7_method_22_code 264 = .ok (.ifCond .eq 7, 3) := by decide +kernel
theorem dM_atom_267 : decode prog_7_method_22_code 267 = .ok (.iconst 1, 1) := by decide +kernel
theorem dM_atom_268 : decode prog_7_method_22_code 268 = .ok (.goto 4, 3) := by decide +kernel
theorem dM_atom_271 : decode prog_7_method_22_code 271 = .ok (.iconst 2, 1) := by decide +kernel
theorem dM_atom_272 : decode prog_7_method_22_code 272 = .ok (.lload_n 2, 1) := by decide +kernel
theorem dM_atom_273 : decode prog_7_method_22_code 273 = .ok (.lconst 1, 1) := by decide +kernel
theorem dM_atom_274 : decode prog_7_method_22_code 274 = .ok (.iload 4, 2) := by decide +kernel
theorem dM_atom_276 : decode prog_7_method_22_code 276 = .ok (.lshl, 1) := by decide +kernel
theorem dM_atom_277 : decode prog_7_method_22_code 277 = .ok (.lor, 1) := by decide +kernel
theorem dM_atom_278 : decode prog_7_method_22_code 278 = .ok (.invokevirtual 167, 3) := by decide +kernel
theorem dM_atom_281 : decode prog_7_method_22_code 281 = .ok (.goto 9, 3) := by decide +kernel
theorem dM_atom_284 : decode prog_7_method_22_code 284 = .ok (.aload_n 0, 1) := by decide +kernel
theorem dM_atom_285 : decode prog_7_method_22_code 285 = .ok (.iload_n 1, 1) := by decide +kernel
theorem dM_atom_286 : decode prog_7_method_22_code 286 = .ok (.lload_n 2, 1) := by decide +kernel
theorem dM_atom_287 : decode prog_7_method_22_code 287 = .ok (.invokevirtual 182, 3) := by decide +kernel
theorem dM_atom_290 : decode prog_7_method_22_code 290 = .ok (.return_, 1) := by decide +kernel
theorem dM_begin_0 : decode prog_7_method_3_code 0 = .ok (.aload_n 0, 1) := by decide +kernel
theorem dM_begin_1 : decode prog_7_method_3_code 1 = .ok (.iconst 0, 1) := by decide +kernel
theorem dM_begin_2 : decode prog_7_method_3_code 2 = .ok (.putfield 118, 3) := by decide +kernel
theorem dM_begin_5 : decode prog_7_method_3_code 5 = .ok (.aload_n 0, 1) := by decide +kernel
theorem dM_begin_6 : decode prog_7_method_3_code 6 = .ok (.iconst 0, 1) := by decide +kernel
theorem dM_begin_7 : decode prog_7_method_3_code 7 = .ok (.putfield 121, 3) := by decide +kernel
theorem dM_begin_10 : decode prog_7_method_3_code 10 = .ok (.aload_n 0, 1) := by decide +kernel
theorem dM_begin_11 : decode prog_7_method_3_code 11 = .ok (.lconst 0, 1) := by decide +kernel
theorem dM_begin_12 : decode prog_7_method_3_code 12 = .ok (.putfield 124, 3) := by decide +kernel
theorem dM_begin_15 : decode prog_7_method_3_code 15 = .ok (.aload_n 0, 1) := by decide +kernel
theorem dM_begin_16 : decode prog_7_method_3_code 16 = .ok (.lconst 0, 1) := by decide +kernel
theorem dM_begin_17 : decode prog_7_method_3_code 17 = .ok (.putfield 128, 3) := by decide +kernel
theorem dM_begin_20 : decode prog_7_method_3_code 20 = .ok (.aload_n 0, 1) := by decide +kernel
theorem dM_begin_21 : decode prog_7_method_3_code 21 = .ok (.iconst (-1), 1) := by decide +kernel
theorem dM_begin_22 : decode prog_7_method_3_code 22 = .ok (.iconst 0, 1) := by decide +kernel
theorem dM_begin_23 : decode prog_7_method_3_code 23 = .ok (.invokevirtual 131, 3) := by decide +kernel
theorem dM_begin_26 : decode prog_7_method_3_code 26 = .ok (.pop, 1) := by decide +kernel
theorem dM_begin_27 : decode prog_7_method_3_code 27 = .ok (.aload_n 0, 1) := by decide +kernel
theorem dM_begin_28 : decode prog_7_method_3_code 28 = .ok (.invokevirtual 135, 3) := by decide +kernel
theorem dM_begin_31 : decode prog_7_method_3_code 31 = .ok (.return_, 1) := by decide +kernel
theorem dM_call_0 : decode prog_7_method_25_code 0 = .ok (.aload_n 0, 1) := by decide +kernel
theorem dM_call_1 : decode prog_7_method_25_code 1 = .ok (.getfield 40, 3) := by decide +kernel
theorem dM_call_4 : decode prog_7_method_25_code 4 = .ok (.iload_n 1, 1) := by decide +kernel
theorem dM_call_5 : decode prog_7_method_25_code 5 = .ok (.iaload, 1) := by decide +kernel
theorem dM_call_6 : decode prog_7_method_25_code 6 = .ok (.istore 4, 2) := by decide +kernel
theorem dM_call_8 : decode prog_7_method_25_code 8 = .ok (.iconst 0, 1) := by decide +kernel
theorem dM_call_9 : decode prog_7_method_25_code 9 = .ok (.istore 5, 2) := by decide +kernel
theorem dM_call_11 : decode prog_7_method_25_code 11 = .ok (.iload 5, 2) := by decide +kernel
theorem dM_call_13 : decode prog_7_method_25_code 13 = .ok (.aload_n 0, 1) := by decide +kernel
theorem dM_call_14 : decode prog_7_method_25_code 14 = .ok (.getfield 13, 3) := by decide +kernel
theorem dM_call_17 : decode prog_7_method_25_code 17 = .ok (.iload 4, 2) := by decide +kernel
theorem dM_call_19 : decode prog_7_method_25_code 19 = .ok (.iaload, 1) := by decide +kernel
theorem dM_call_20 : decode prog_7_method_25_code 20 = .ok (.if_icmp .ge 121, 3) := by decide +kernel
theorem dM_call_23 : decode prog_7_method_25_code 23 = .ok (.aload_n 0, 1) := by decide +kernel
theorem dM_call_24 : decode prog_7_method_25_code 24 = .ok (.getfield 16, 3) := by decide +kernel
theorem dM_call_27 : decode prog_7_method_25_code 27 = .ok (.iconst 4, 1) := by decide +kernel
theorem dM_call_28 : decode prog_7_method_25_code 28 = .ok (.iload 4, 2) := by decide +kernel
theorem dM_call_30 : decode prog_7_method_25_code 30 = .ok (.imul, 1) := by decide +kernel
theorem dM_call_31 : decode prog_7_method_25_code 31 = .ok (.iload 5, 2) := by decide +kernel
theorem dM_call_33 : decode prog_7_method_25_code 33 = .ok (.iadd, 1) := by decide +kernel
theorem dM_call_34 : decode prog_7_method_25_code 34 = .ok (.iaload, 1) := by decide +kernel
theorem dM_call_35 : decode prog_7_method_25_code 35 = .ok (.istore 6, 2) := by decide +kernel
theorem dM_call_37 : decode prog_7_method_25_code 37 = .ok (.iconst 1, 1) := by decide +kernel
theorem dM_call_38 : decode prog_7_method_25_code 38 = .ok (.istore 7, 2) := by decide +kernel
theorem dM_call_40 : decode prog_7_method_25_code 40 = .ok (.iconst 0, 1) := by decide +kernel
theorem dM_call_41 : decode prog_7_method_25_code 41 = .ok (.istore 8, 2) := by decide +kernel
theorem dM_call_43 : decode prog_7_method_25_code 43 = .ok (.iload 8, 2) := by decide +kernel
theorem dM_call_45 : decode prog_7_method_25_code 45 = .ok (.aload_n 0, 1) := by decide +kernel
theorem dM_call_46 : decode prog_7_method_25_code 46 = .ok (.getfield 43, 3) := by decide +kernel
theorem dM_call_49 : decode prog_7_method_25_code 49 = .ok (.iload_n 1, 1) := by decide +kernel
theorem dM_call_50 : decode prog_7_method_25_code 50 = .ok (.iaload, 1) := by decide +kernel
theorem dM_call_51 : decode prog_7_method_25_code 51 = .ok (.if_icmp .ge 52, 3) := by decide +kernel
theorem dM_call_54 : decode prog_7_method_25_code 54 = .ok (.iload 7, 2) := by decide +kernel
theorem dM_call_56 : decode prog_7_method_25_code 56 = .ok (.ifCond .eq 38, 3) := by decide +kernel
theorem dM_call_59 : decode prog_7_method_25_code 59 = .ok (.iload 6, 2) := by decide +kernel
theorem dM_call_61 : decode prog_7_method_25_code 61 = .ok (.iload 8, 2) := by decide +kernel
theorem dM_call_63 : decode prog_7_method_25_code 63 = .ok (.ishr, 1) := by decide +kernel
theorem dM_call_64 : decode prog_7_method_25_code 64 = .ok (.iconst 1, 1) := by decide +kernel
theorem dM_call_65 : decode prog_7_method_25_code 65 = .ok (.iand, 1) := by decide +kernel
theorem dM_call_66 : decode prog_7_method_25_code 66 = .ok (.iconst 1, 1) := by decide +kernel
theorem dM_call_67 : decode prog_7_method_25_code 67 = .ok (.if_icmp .eq 23, 3) := by decide +kernel
theorem dM_call_70 : decode prog_7_method_25_code 70 = .ok (.aload_n 0, 1) := by decide +kernel
theorem dM_call_71 : decode prog_7_method_25_code 71 = .ok (.lload_n 2, 1) := by decide +kernel
theorem dM_call_72 : decode prog_7_method_25_code 72 = .ok (.aload_n 0, 1) := by decide +kernel
theorem dM_call_73 : decode prog_7_method_25_code 73 = .ok (.getfield 46, 3) := by decide +kernel
theorem dM_call_76 : decode prog_7_method_25_code 76 = .ok (.bipush 7, 2) := by decide +kernel
theorem dM_call_78 : decode prog_7_method_25_code 78 = .ok (.iload_n 1, 1) := by decide +kernel
theorem dM_call_79 : decode prog_7_method_25_code 79 = .ok (.imul, 1) := by decide +kernel
theorem dM_call_80 : decode prog_7_method_25_code 80 = .ok (.iload 8, 2) := by decide +kernel
theorem dM_call_82 : decode prog_7_method_25_code 82 = .ok (.iadd, 1) := by decide +kernel
theorem dM_call_83 : decode prog_7_method_25_code 83 = .ok (.iaload, 1) := by decide +kernel
theorem dM_call_84 : decode prog_7_method_25_code 84 = .ok (.invokevirtual 163, 3) := by decide +kernel
theorem dM_call_87 : decode prog_7_method_25_code 87 = .ok (.ifCond .eq 7, 3) := by decide +kernel
theorem dM_call_90 : decode prog_7_method_25_code 90 = .ok (.iconst 1, 1) := by decide +kernel
theorem dM_call_91 : decode prog_7_method_25_code 91 = .ok (.goto 4, 3) := by decide +kernel
theorem dM_call_94 : decode prog_7_method_25_code 94 = .ok (.iconst 0, 1) := by decide +kernel
theorem dM_call_95 : decode prog_7_method_25_code 95 = .ok (.istore 7, 2) := by decide +kernel
theorem dM_call_97 : decode prog_7_method_25_code 97 = .ok (.iinc 8 1, 3) := by decide +kernel
theorem dM_call_100 : decode prog_7_method_25_code 100 = .ok (.goto (-57), 3) := by decide +kernel
theorem dM_call_103 : decode prog_7_method_25_code 103 = .ok (.iload 7, 2) := by decide +kernel
theorem dM_call_105 : decode prog_7_method_25_code 105 = .ok (.ifCond .ne 6, 3) := by decide +kernel
theorem dM_call_108 : decode prog_7_method_25_code 108 = .ok (.goto 27, 3) := by decide +kernel
theorem dM_call_111 : decode prog_7_method_25_code 111 = .ok (.aload_n 0, 1) := by decide +kernel
theorem dM_call_112 : decode prog_7_method_25_code 112 = .ok (.iload_n 1, 1) := by decide +kernel
theorem dM_call_113 : decode prog_7_method_25_code 113 = .ok (.iload 5, 2) := by decide +kernel
theorem dM_call_115 : decode prog_7_method_25_code 115 = .ok (.lload_n 2, 1) := by decide +kernel
theorem dM_call_116 : decode prog_7_method_25_code 116 = .ok (.aload_n 0, 1) := by decide +kernel
theorem dM_call_117 : decode prog_7_method_25_code 117 = .ok (.iload_n 1, 1) := by decide +kernel
theorem dM_call_118 : decode prog_7_method_25_code 118 = .ok (.iconst 0, 1) := by decide +kernel
theorem dM_call_119 : decode prog_7_method_25_code 119 = .ok (.invokevirtual 159, 3) := by decide +kernel
theorem dM_call_122 : decode prog_7_method_25_code 122 = .ok (.lor, 1) := by decide +kernel
theorem dM_call_123 : decode prog_7_method_25_code 123 = .ok (.invokevirtual 167, 3) := by decide +kernel
theorem dM_call_126 : decode prog_7_method_25_code 126 = .ok (.aload_n 0, 1) := by decide +kernel
theorem dM_call_127 : decode prog_7_method_25_code 127 = .ok (.iload_n 1, 1) := by decide +kernel
theorem dM_call_128 : decode prog_7_method_25_code 128 = .ok (.iload 6, 2) := by decide +kernel
theorem dM_call_130 : decode prog_7_method_25_code 130 = .ok (.lload_n 2, 1) := by decide +kernel
theorem dM_call_131 : decode prog_7_method_25_code 131 = .ok (.invokevirtual 179, 3) := by decide +kernel
theorem dM_call_134 : decode prog_7_method_25_code 134 = .ok (.return_, 1) := by decide +kernel
theorem dM_call_135 : decode prog_7_method_25_code 135 = .ok (.iinc 5 1, 3) := by decide +kernel
theorem dM_call_138 : decode prog_7_method_25_code 138 = .ok (.goto (-127), 3) := by decide +kernel
theorem dM_call_141 : decode prog_7_method_25_code 141 = .ok (.return_, 1) := by decide +kernel
theorem dM_changed_0 : decode prog_7_method_4_code 0 = .ok (.aload_n 0, 1) := by decide +kernel
theorem dM_changed_1 : decode prog_7_method_4_code 1 = .ok (.iconst 0, 1) := by decide +kernel
theorem dM_changed_2 : decode prog_7_method_4_code 2 = .ok (.putfield 138, 3) := by decide +kernel
theorem dM_changed_5 : decode prog_7_method_4_code 5 = .ok (.aload_n 0, 1) := by decide +kernel
theorem dM_changed_6 : decode prog_7_method_4_code 6 = .ok (.iconst (-1), 1) := by decide +kernel
theorem dM_changed_7 : decode prog_7_method_4_code 7 = .ok (.putfield 108, 3) := by decide +kernel
theorem dM_changed_10 : decode prog_7_method_4_code 10 = .ok (.return_, 1) := by decide +kernel
theorem dM_choice_0 : decode prog_7_method_30_code 0 = .ok (.aload_n 0, 1) := by decide +kernel
theorem dM_choice_1 : decode prog_7_method_30_code 1 = .ok (.getfield 90, 3) := by decide +kernel
theorem dM_choice_4 : decode prog_7_method_30_code 4 = .ok (.iload_n 1, 1) := by decide +kernel
theorem dM_choice_5 : decode prog_7_method_30_code 5 = .ok (.iaload, 1) := by decide +kernel
theorem dM_choice_6 : decode prog_7_method_30_code 6 = .ok (.ifCond .ne 41, 3) := by decide +kernel
theorem dM_choice_9 : decode prog_7_method_30_code 9 = .ok (.aload_n 0, 1) := by decide +kernel
theorem dM_choice_10 : decode prog_7_method_30_code 10 = .ok (.getfield 90, 3) := by decide +kernel
theorem dM_choice_13 : decode prog_7_method_30_code 13 = .ok (.iload_n 1, 1) := by decide +kernel
theorem dM_choice_14 : decode prog_7_method_30_code 14 = .ok (.iconst 1, 1) := by decide +kernel
theorem dM_choice_15 : decode prog_7_method_30_code 15 = .ok (.iastore, 1) := by decide +kernel
theorem dM_choice_16 : decode prog_7_method_30_code 16 = .ok (.aload_n 0, 1) := by decide +kernel
theorem dM_choice_17 : decode prog_7_method_30_code 17 = .ok (.getfield 93, 3) := by decide +kernel
theorem dM_choice_20 : decode prog_7_method_30_code 20 = .ok (.iload_n 1, 1) := by decide +kernel
theorem dM_choice_21 : decode prog_7_method_30_code 21 = .ok (.aload_n 0, 1) := by decide +kernel
theorem dM_choice_22 : decode prog_7_method_30_code 22 = .ok (.getfield 31, 3) := by decide +kernel
theorem dM_choice_25 : decode prog_7_method_30_code 25 = .ok (.iload_n 2, 1) := by decide +kernel
theorem dM_choice_26 : decode prog_7_method_30_code 26 = .ok (.iaload, 1) := by decide +kernel
theorem dM_choice_27 : decode prog_7_method_30_code 27 = .ok (.iastore, 1) := by decide +kernel
theorem dM_choice_28 : decode prog_7_method_30_code 28 = .ok (.aload_n 0, 1) := by decide +kernel
theorem dM_choice_29 : decode prog_7_method_30_code 29 = .ok (.getfield 102, 3) := by decide +kernel
theorem dM_choice_32 : decode prog_7_method_30_code 32 = .ok (.iload_n 1, 1) := by decide +kernel
theorem dM_choice_33 : decode prog_7_method_30_code 33 = .ok (.ldc2_w 215, 3) := by decide +kernel
theorem dM_choice_36 : decode prog_7_method_30_code 36 = .ok (.lastore, 1) := by decide +kernel
theorem dM_choice_37 : decode prog_7_method_30_code 37 = .ok (.aload_n 0, 1) := by decide +kernel
theorem dM_choice_38 : decode prog_7_method_30_code 38 = .ok (.getfield 105, 3) := by decide +kernel
theorem dM_choice_41 : decode prog_7_method_30_code 41 = .ok (.iload_n 1, 1) := by decide +kernel
theorem dM_choice_42 : decode prog_7_method_30_code 42 = .ok (.lconst 0, 1) := by decide +kernel
theorem dM_choice_43 : decode prog_7_method_30_code 43 = .ok (.lastore, 1) := by decide +kernel
theorem dM_choice_44 : decode prog_7_method_30_code 44 = .ok (.goto 77, 3) := by decide +kernel
theorem dM_choice_47 : decode prog_7_method_30_code 47 = .ok (.aload_n 0, 1) := by decide +kernel
theorem dM_choice_48 : decode prog_7_method_30_code 48 = .ok (.getfield 93, 3) := by decide +kernel
theorem dM_choice_51 : decode prog_7_method_30_code 51 = .ok (.iload_n 1, 1) := by decide +kernel
theorem dM_choice_52 : decode prog_7_method_30_code 52 = .ok (.iaload, 1) := by decide +kernel
theorem dM_choice_53 : decode prog_7_method_30_code 53 = .ok (.istore_n 3, 1) := by decide +kernel
theorem dM_choice_54 : decode prog_7_method_30_code 54 = .ok (.aload_n 0, 1) := by decide +kernel
theorem dM_choice_55 : decode prog_7_method_30_code 55 = .ok (.getfield 68, 3) := by decide +kernel
theorem dM_choice_58 : decode prog_7_method_30_code 58 = .ok (.iload_n 3, 1) := by decide +kernel
theorem dM_choice_59 : decode prog_7_method_30_code 59 = .ok (.baload, 1) := by decide +kernel
theorem dM_choice_60 : decode prog_7_method_30_code 60 = .ok (.ifCond .ne 19, 3) := by decide +kernel
theorem dM_choice_63 : decode prog_7_method_30_code 63 = .ok (.aload_n 0, 1) := by decide +kernel
theorem dM_choice_64 : decode prog_7_method_30_code 64 = .ok (.getfield 84, 3) := by decide +kernel
theorem dM_choice_67 : decode prog_7_method_30_code 67 = .ok (.iload_n 2, 1) := by decide +kernel
theorem dM_choice_68 : decode prog_7_method_30_code 68 = .ok (.iload_n 3, 1) := by decide +kernel
theorem dM_choice_69 : decode prog_7_method_30_code 69 = .ok (.iastore, 1) := by decide +kernel
theorem dM_choice_70 : decode prog_7_method_30_code 70 = .ok (.aload_n 0, 1) := by decide +kernel
theorem dM_choice_71 : decode prog_7_method_30_code 71 = .ok (.iload_n 2, 1) := by decide +kernel
theorem dM_choice_72 : decode prog_7_method_30_code 72 = .ok (.iconst 0, 1) := by decide +kernel
theorem dM_choice_73 : decode prog_7_method_30_code 73 = .ok (.lconst 0, 1) := by decide +kernel
theorem dM_choice_74 : decode prog_7_method_30_code 74 = .ok (.invokevirtual 211, 3) := by decide +kernel
theorem dM_choice_77 : decode prog_7_method_30_code 77 = .ok (.iconst 1, 1) := by decide +kernel
theorem dM_choice_78 : decode prog_7_method_30_code 78 = .ok (.ireturn, 1) := by decide +kernel
theorem dM_choice_79 : decode prog_7_method_30_code 79 = .ok (.aload_n 0, 1) := by decide +kernel
theorem dM_choice_80 : decode prog_7_method_30_code 80 = .ok (.getfield 102, 3) := by decide +kernel
theorem dM_choice_83 : decode prog_7_method_30_code 83 = .ok (.iload_n 1, 1) := by decide +kernel
theorem dM_choice_84 : decode prog_7_method_30_code 84 = .ok (.dup2, 1) := by decide +kernel
theorem dM_choice_85 : decode prog_7_method_30_code 85 = .ok (.laload, 1) := by decide +kernel
theorem dM_choice_86 : decode prog_7_method_30_code 86 = .ok (.aload_n 0, 1) := by decide +kernel
theorem dM_choice_87 : decode prog_7_method_30_code 87 = .ok (.getfield 65, 3) := by decide +kernel
theorem dM_choice_90 : decode prog_7_method_30_code 90 = .ok (.iload_n 3, 1) := by decide +kernel
theorem dM_choice_91 : decode prog_7_method_30_code 91 = .ok (.laload, 1) := by decide +kernel
theorem dM_choice_92 : decode prog_7_method_30_code 92 = .ok (.land, 1) := by decide +kernel
theorem dM_choice_93 : decode prog_7_method_30_code 93 = .ok (.lastore, 1) := by decide +kernel
theorem dM_choice_94 : decode prog_7_method_30_code 94 = .ok (.aload_n 0, 1) := by decide +kernel
theorem dM_choice_95 : decode prog_7_method_30_code 95 = .ok (.getfield 105, 3) := by decide +kernel
theorem dM_choice_98 : decode prog_7_method_30_code 98 = .ok (.iload_n 1, 1) := by decide +kernel
theorem dM_choice_99 : decode prog_7_method_30_code 99 = .ok (.dup2, 1) := by decide +kernel
theorem dM_choice_100 : decode prog_7_method_30_code 100 = .ok (.laload, 1) := by decide +kernel
theorem dM_choice_101 : decode prog_7_method_30_code 101 = .ok (.aload_n 0, 1) := by decide +kernel
theorem dM_choice_102 : decode prog_7_method_30_code 102 = .ok (.getfield 65, 3) := by decide +kernel
theorem dM_choice_105 : decode prog_7_method_30_code 105 = .ok (.iload_n 3, 1) := by decide +kernel
theorem dM_choice_106 : decode prog_7_method_30_code 106 = .ok (.laload, 1) := by decide +kernel
theorem dM_choice_107 : decode prog_7_method_30_code 107 = .ok (.lor, 1) := by decide +kernel
theorem dM_choice_108 : decode prog_7_method_30_code 108 = .ok (.lastore, 1) := by decide +kernel
theorem dM_choice_109 : decode prog_7_method_30_code 109 = .ok (.aload_n 0, 1) := by decide +kernel
theorem dM_choice_110 : decode prog_7_method_30_code 110 = .ok (.getfield 93, 3) := by decide +kernel
theorem dM_choice_113 : decode prog_7_method_30_code 113 = .ok (.iload_n 1, 1) := by decide +kernel
theorem dM_choice_114 : decode prog_7_method_30_code 114 = .ok (.aload_n 0, 1) := by decide +kernel
theorem dM_choice_115 : decode prog_7_method_30_code 115 = .ok (.getfield 37, 3) := by decide +kernel
theorem dM_choice_118 : decode prog_7_method_30_code 118 = .ok (.iload_n 3, 1) := by decide +kernel
theorem dM_choice_119 : decode prog_7_method_30_code 119 = .ok (.iaload, 1) := by decide +kernel
theorem dM_choice_120 : decode prog_7_method_30_code 120 = .ok (.iastore, 1) := by decide +kernel
theorem dM_choice_121 : decode prog_7_method_30_code 121 = .ok (.aload_n 0, 1) := by decide +kernel
theorem dM_choice_122 : decode prog_7_method_30_code 122 = .ok (.getfield 93, 3) := by decide +kernel
theorem dM_choice_125 : decode prog_7_method_30_code 125 = .ok (.iload_n 1, 1) := by decide +kernel
theorem dM_choice_126 : decode prog_7_method_30_code 126 = .ok (.iaload, 1) := by decide +kernel
theorem dM_choice_127 : decode prog_7_method_30_code 127 = .ok (.iconst (-1), 1) := by decide +kernel
theorem dM_choice_128 : decode prog_7_method_30_code 128 = .ok (.if_icmp .eq 20, 3) := by decide +kernel
theorem dM_choice_131 : decode prog_7_method_30_code 131 = .ok (.aload_n 0, 1) := by decide +kernel
theorem dM_choice_132 : decode prog_7_method_30_code 132 = .ok (.aload_n 0, 1) := by decide +kernel
theorem dM_choice_133 : decode prog_7_method_30_code 133 = .ok (.getfield 93, 3) := by decide +kernel
theorem dM_choice_136 : decode prog_7_method_30_code 136 = .ok (.iload_n 1, 1) := by decide +kernel
theorem dM_choice_137 : decode prog_7_method_30_code 137 = .ok (.iaload, 1) := by decide +kernel
theorem dM_choice_138 : decode prog_7_method_30_code 138 = .ok (.aload_n 0, 1) := by decide +kernel
theorem dM_choice_139 : decode prog_7_method_30_code 139 = .ok (.getfield 62, 3) := by decide +kernel
theorem dM_choice_142 : decode prog_7_method_30_code 142 = .ok (.iload_n 2, 1) := by decide +kernel
theorem dM_choice_143 : decode prog_7_method_30_code 143 = .ok (.laload, 1) := by decide +kernel
theorem dM_choice_144 : decode prog_7_method_30_code 144 = .ok (.invokevirtual 207, 3) := by decide +kernel
theorem dM_choice_147 : decode prog_7_method_30_code 147 = .ok (.ireturn, 1) := by decide +kernel
theorem dM_choice_148 : decode prog_7_method_30_code 148 = .ok (.aload_n 0, 1) := by decide +kernel
theorem dM_choice_149 : decode prog_7_method_30_code 149 = .ok (.getfield 55, 3) := by decide +kernel
theorem dM_choice_152 : decode prog_7_method_30_code 152 = .ok (.iload_n 2, 1) := by decide +kernel
theorem dM_choice_153 : decode prog_7_method_30_code 153 = .ok (.laload, 1) := by decide +kernel
theorem dM_choice_154 : decode prog_7_method_30_code 154 = .ok (.aload_n 0, 1) := by decide +kernel
theorem dM_choice_155 : decode prog_7_method_30_code 155 = .ok (.getfield 62, 3) := by decide +kernel
theorem dM_choice_158 : decode prog_7_method_30_code 158 = .ok (.iload_n 2, 1) := by decide +kernel
theorem dM_choice_159 : decode prog_7_method_30_code 159 = .ok (.laload, 1) := by decide +kernel
theorem dM_choice_160 : decode prog_7_method_30_code 160 = .ok (.ldc2_w 215, 3) := by decide +kernel
theorem dM_choice_163 : decode prog_7_method_30_code 163 = .ok (.lxor, 1) := by decide +kernel
theorem dM_choice_164 : decode prog_7_method_30_code 164 = .ok (.land, 1) := by decide +kernel
theorem dM_choice_165 : decode prog_7_method_30_code 165 = .ok (.lstore_n 3, 1) := by decide +kernel
theorem dM_choice_166 : decode prog_7_method_30_code 166 = .ok (.aload_n 0, 1) := by decide +kernel
theorem dM_choice_167 : decode prog_7_method_30_code 167 = .ok (.getfield 28, 3) := by decide +kernel
theorem dM_choice_170 : decode prog_7_method_30_code 170 = .ok (.iload_n 2, 1) := by decide +kernel
theorem dM_choice_171 : decode prog_7_method_30_code 171 = .ok (.iaload, 1) := by decide +kernel
theorem dM_choice_172 : decode prog_7_method_30_code 172 = .ok (.ifCond .eq 23, 3) := by decide +kernel
theorem dM_choice_175 : decode prog_7_method_30_code 175 = .ok (.aload_n 0, 1) := by decide +kernel
theorem dM_choice_176 : decode prog_7_method_30_code 176 = .ok (.getfield 102, 3) := by decide +kernel
theorem dM_choice_179 : decode prog_7_method_30_code 179 = .ok (.iload_n 1, 1) := by decide +kernel
theorem dM_choice_180 : decode prog_7_method_30_code 180 = .ok (.laload, 1) := by decide +kernel
theorem dM_choice_181 : decode prog_7_method_30_code 181 = .ok (.lload_n 3, 1) := by decide +kernel
theorem dM_choice_182 : decode prog_7_method_30_code 182 = .ok (.land, 1) := by decide +kernel
theorem dM_choice_183 : decode prog_7_method_30_code 183 = .ok (.aload_n 0, 1) := by decide +kernel
theorem dM_choice_184 : decode prog_7_method_30_code 184 = .ok (.getfield 105, 3) := by decide +kernel
theorem dM_choice_187 : decode prog_7_method_30_code 187 = .ok (.iload_n 1, 1) := by decide +kernel
theorem dM_choice_188 : decode prog_7_method_30_code 188 = .ok (.laload, 1) := by decide +kernel
theorem dM_choice_189 : decode prog_7_method_30_code 189 = .ok (.lload_n 3, 1) := by decide +kernel
theorem dM_choice_190 : decode prog_7_method_30_code 190 = .ok (.land, 1) := by decide +kernel
theorem dM_choice_191 : decode prog_7_method_30_code 191 = .ok (.lcmp, 1) := by decide +kernel
theorem dM_choice_192 : decode prog_7_method_30_code 192 = .ok (.ifCond .ne 7, 3) := by decide +kernel
theorem dM_choice_195 : decode prog_7_method_30_code 195 = .ok (.iconst 1, 1) := by decide +kernel
theorem dM_choice_196 : decode prog_7_method_30_code 196 = .ok (.goto 4, 3) := by decide +kernel
theorem dM_choice_199 : decode prog_7_method_30_code 199 = .ok (.iconst 0, 1) := by decide +kernel
theorem dM_choice_200 : decode prog_7_method_30_code 200 = .ok (.istore 5, 2) := by decide +kernel
theorem dM_choice_202 : decode prog_7_method_30_code 202 = .ok (.aload_n 0, 1) := by decide +kernel
theorem dM_choice_203 : decode prog_7_method_30_code 203 = .ok (.iload_n 2, 1) := by decide +kernel
theorem dM_choice_204 : decode prog_7_method_30_code 204 = .ok (.iload 5, 2) := by decide +kernel
theorem dM_choice_206 : decode prog_7_method_30_code 206 = .ok (.aload_n 0, 1) := by decide +kernel
theorem dM_choice_207 : decode prog_7_method_30_code 207 = .ok (.getfield 62, 3) := by decide +kernel
theorem dM_choice_210 : decode prog_7_method_30_code 210 = .ok (.iload_n 2, 1) := by decide +kernel
theorem dM_choice_211 : decode prog_7_method_30_code 211 = .ok (.laload, 1) := by decide +kernel
theorem dM_choice_212 : decode prog_7_method_30_code 212 = .ok (.aload_n 0, 1) := by decide +kernel
theorem dM_choice_213 : decode prog_7_method_30_code 213 = .ok (.getfield 28, 3) := by decide +kernel
theorem dM_choice_216 : decode prog_7_method_30_code 216 = .ok (.iload_n 2, 1) := by decide +kernel
theorem dM_choice_217 : decode prog_7_method_30_code 217 = .ok (.iaload, 1) := by decide +kernel
theorem dM_choice_218 : decode prog_7_method_30_code 218 = .ok (.ifCond .ne 7, 3) := by decide +kernel
theorem dM_choice_221 : decode prog_7_method_30_code 221 = .ok (.lconst 0, 1) := by decide +kernel
theorem dM_choice_222 : decode prog_7_method_30_code 222 = .ok (.goto 11, 3) := by decide +kernel
theorem dM_choice_225 : decode prog_7_method_30_code 225 = .ok (.aload_n 0, 1) := by decide +kernel
theorem dM_choice_226 : decode prog_7_method_30_code 226 = .ok (.getfield 102, 3) := by decide +kernel
theorem dM_choice_229 : decode prog_7_method_30_code 229 = .ok (.iload_n 1, 1) := by decide +kernel
theorem dM_choice_230 : decode prog_7_method_30_code 230 = .ok (.laload, 1) := by decide +kernel
theorem dM_choice_231 : decode prog_7_method_30_code 231 = .ok (.lload_n 3, 1) := by decide +kernel
theorem dM_choice_232 : decode prog_7_method_30_code 232 = .ok (.land, 1) := by decide +kernel
theorem dM_choice_233 : decode prog_7_method_30_code 233 = .ok (.lor, 1) := by decide +kernel
theorem dM_choice_234 : decode prog_7_method_30_code 234 = .ok (.invokevirtual 211, 3) := by decide +kernel
theorem dM_choice_237 : decode prog_7_method_30_code 237 = .ok (.iconst 1, 1) := by decide +kernel
theorem dM_choice_238 : decode prog_7_method_30_code 238 = .ok (.ireturn, 1) := by decide +kernel
theorem dM_clear_0 : decode prog_7_method_7_code 0 = .ok (.aload_n 0, 1) := by decide +kernel
theorem dM_clear_1 : decode prog_7_method_7_code 1 = .ok (.iconst 0, 1) := by decide +kernel
theorem dM_clear_2 : decode prog_7_method_7_code 2 = .ok (.putfield 115, 3) := by decide +kernel
theorem dM_clear_5 : decode prog_7_method_7_code 5 = .ok (.aload_n 0, 1) := by decide +kernel
theorem dM_clear_6 : decode prog_7_method_7_code 6 = .ok (.invokevirtual 112, 3) := by decide +kernel
theorem dM_clear_9 : decode prog_7_method_7_code 9 = .ok (.return_, 1) := by decide +kernel
theorem dM_comes_0 : decode prog_7_method_21_code 0 = .ok (.aload_n 0, 1) := by decide +kernel
theorem dM_comes_1 : decode prog_7_method_21_code 1 = .ok (.getfield 68, 3) := by decide +kernel
theorem dM_comes_4 : decode prog_7_method_21_code 4 = .ok (.iload_n 1, 1) := by decide +kernel
theorem dM_comes_5 : decode prog_7_method_21_code 5 = .ok (.iconst 1, 1) := by decide +kernel
theorem dM_comes_6 : decode prog_7_method_21_code 6 = .ok (.bastore, 1) := by decide +kernel
theorem dM_comes_7 : decode prog_7_method_21_code 7 = .ok (.aload_n 0, 1) := by decide +kernel
theorem dM_comes_8 : decode prog_7_method_21_code 8 = .ok (.getfield 78, 3) := by decide +kernel
theorem dM_comes_11 : decode prog_7_method_21_code 11 = .ok (.iload_n 1, 1) := by decide +kernel
theorem dM_comes_12 : decode prog_7_method_21_code 12 = .ok (.iload_n 2, 1) := by decide +kernel
theorem dM_comes_13 : decode prog_7_method_21_code 13 = .ok (.iastore, 1) := by decide +kernel
theorem dM_comes_14 : decode prog_7_method_21_code 14 = .ok (.aload_n 0, 1) := by decide +kernel
theorem dM_comes_15 : decode prog_7_method_21_code 15 = .ok (.getfield 65, 3) := by decide +kernel
theorem dM_comes_18 : decode prog_7_method_21_code 18 = .ok (.iload_n 1, 1) := by decide +kernel
theorem dM_comes_19 : decode prog_7_method_21_code 19 = .ok (.lload_n 3, 1) := by decide +kernel
theorem dM_comes_20 : decode prog_7_method_21_code 20 = .ok (.lastore, 1) := by decide +kernel
theorem dM_comes_21 : decode prog_7_method_21_code 21 = .ok (.return_, 1) := by decide +kernel
