theorem dM_row_0 : decode prog_7_method_29_code 0 = .ok (.aload_n 0, 1) := by decide +kernel
theorem dM_row_1 : decode prog_7_method_29_code 1 = .ok (.getfield 90, 3) := by decide +kernel
theorem dM_row_4 : decode prog_7_method_29_code 4 = .ok (.iload_n 1, 1) := by decide +kernel
theorem dM_row_5 : decode prog_7_method_29_code 5 = .ok (.iaload, 1) := by decide +kernel
theorem dM_row_6 : decode prog_7_method_29_code 6 = .ok (.ifCond .ne 73, 3) := by decide +kernel
theorem dM_row_9 : decode prog_7_method_29_code 9 = .ok (.aload_n 0, 1) := by decide +kernel
theorem dM_row_10 : decode prog_7_method_29_code 10 = .ok (.getfield 31, 3) := by decide +kernel
theorem dM_row_13 : decode prog_7_method_29_code 13 = .ok (.iload_n 2, 1) := by decide +kernel
theorem dM_row_14 : decode prog_7_method_29_code 14 = .ok (.iaload, 1) := by decide +kernel
theorem dM_row_15 : decode prog_7_method_29_code 15 = .ok (.istore_n 3, 1) := by decide +kernel
theorem dM_row_16 : decode prog_7_method_29_code 16 = .ok (.iload_n 3, 1) := by decide +kernel
theorem dM_row_17 : decode prog_7_method_29_code 17 = .ok (.iconst (-1), 1) := by decide +kernel
theorem dM_row_18 : decode prog_7_method_29_code 18 = .ok (.if_icmp .eq 20, 3) := by decide +kernel
theorem dM_row_21 : decode prog_7_method_29_code 21 = .ok (.aload_n 0, 1) := by decide +kernel
theorem dM_row_22 : decode prog_7_method_29_code 22 = .ok (.getfield 72, 3) := by decide +kernel
theorem dM_row_25 : decode prog_7_method_29_code 25 = .ok (.iload_n 3, 1) := by decide +kernel
theorem dM_row_26 : decode prog_7_method_29_code 26 = .ok (.iconst 0, 1) := by decide +kernel
theorem dM_row_27 : decode prog_7_method_29_code 27 = .ok (.bastore, 1) := by decide +kernel
theorem dM_row_28 : decode prog_7_method_29_code 28 = .ok (.aload_n 0, 1) := by decide +kernel
theorem dM_row_29 : decode prog_7_method_29_code 29 = .ok (.getfield 37, 3) := by decide +kernel
theorem dM_row_32 : decode prog_7_method_29_code 32 = .ok (.iload_n 3, 1) := by decide +kernel
theorem dM_row_33 : decode prog_7_method_29_code 33 = .ok (.iaload, 1) := by decide +kernel
theorem dM_row_34 : decode prog_7_method_29_code 34 = .ok (.istore_n 3, 1) := by decide +kernel
theorem dM_row_35 : decode prog_7_method_29_code 35 = .ok (.goto (-19), 3) := by decide +kernel
theorem dM_row_38 : decode prog_7_method_29_code 38 = .ok (.aload_n 0, 1) := by decide +kernel
theorem dM_row_39 : decode prog_7_method_29_code 39 = .ok (.getfield 90, 3) := by decide +kernel
theorem dM_row_42 : decode prog_7_method_29_code 42 = .ok (.iload_n 1, 1) := by decide +kernel
theorem dM_row_43 : decode prog_7_method_29_code 43 = .ok (.iconst 1, 1) := by decide +kernel
theorem dM_row_44 : decode prog_7_method_29_code 44 = .ok (.iastore, 1) := by decide +kernel
theorem dM_row_45 : decode prog_7_method_29_code 45 = .ok (.aload_n 0, 1) := by decide +kernel
theorem dM_row_46 : decode prog_7_method_29_code 46 = .ok (.getfield 93, 3) := by decide +kernel
theorem dM_row_49 : decode prog_7_method_29_code 49 = .ok (.iload_n 1, 1) := by decide +kernel
theorem dM_row_50 : decode prog_7_method_29_code 50 = .ok (.aload_n 0, 1) := by decide +kernel
theorem dM_row_51 : decode prog_7_method_29_code 51 = .ok (.getfield 31, 3) := by decide +kernel
theorem dM_row_54 : decode prog_7_method_29_code 54 = .ok (.iload_n 2, 1) := by decide +kernel
theorem dM_row_55 : decode prog_7_method_29_code 55 = .ok (.iaload, 1) := by decide +kernel
theorem dM_row_56 : decode prog_7_method_29_code 56 = .ok (.iastore, 1) := by decide +kernel
theorem dM_row_57 : decode prog_7_method_29_code 57 = .ok (.aload_n 0, 1) := by decide +kernel
theorem dM_row_58 : decode prog_7_method_29_code 58 = .ok (.getfield 99, 3) := by decide +kernel
theorem dM_row_61 : decode prog_7_method_29_code 61 = .ok (.iload_n 1, 1) := by decide +kernel
theorem dM_row_62 : decode prog_7_method_29_code 62 = .ok (.aload_n 0, 1) := by decide +kernel
theorem dM_row_63 : decode prog_7_method_29_code 63 = .ok (.getfield 62, 3) := by decide +kernel
theorem dM_row_66 : decode prog_7_method_29_code 66 = .ok (.iload_n 2, 1) := by decide +kernel
theorem dM_row_67 : decode prog_7_method_29_code 67 = .ok (.laload, 1) := by decide +kernel
theorem dM_row_68 : decode prog_7_method_29_code 68 = .ok (.lastore, 1) := by decide +kernel
theorem dM_row_69 : decode prog_7_method_29_code 69 = .ok (.aload_n 0, 1) := by decide +kernel
theorem dM_row_70 : decode prog_7_method_29_code 70 = .ok (.getfield 96, 3) := by decide +kernel
theorem dM_row_73 : decode prog_7_method_29_code 73 = .ok (.iload_n 1, 1) := by decide +kernel
theorem dM_row_74 : decode prog_7_method_29_code 74 = .ok (.iconst 0, 1) := by decide +kernel
theorem dM_row_75 : decode prog_7_method_29_code 75 = .ok (.iastore, 1) := by decide +kernel
theorem dM_row_76 : decode prog_7_method_29_code 76 = .ok (.goto 87, 3) := by decide +kernel
theorem dM_row_79 : decode prog_7_method_29_code 79 = .ok (.aload_n 0, 1) := by decide +kernel
theorem dM_row_80 : decode prog_7_method_29_code 80 = .ok (.getfield 93, 3) := by decide +kernel
theorem dM_row_83 : decode prog_7_method_29_code 83 = .ok (.iload_n 1, 1) := by decide +kernel
theorem dM_row_84 : decode prog_7_method_29_code 84 = .ok (.iaload, 1) := by decide +kernel
theorem dM_row_85 : decode prog_7_method_29_code 85 = .ok (.istore_n 3, 1) := by decide +kernel
theorem dM_row_86 : decode prog_7_method_29_code 86 = .ok (.aload_n 0, 1) := by decide +kernel
theorem dM_row_87 : decode prog_7_method_29_code 87 = .ok (.getfield 68, 3) := by decide +kernel
theorem dM_row_90 : decode prog_7_method_29_code 90 = .ok (.iload_n 3, 1) := by decide +kernel
theorem dM_row_91 : decode prog_7_method_29_code 91 = .ok (.baload, 1) := by decide +kernel
theorem dM_row_92 : decode prog_7_method_29_code 92 = .ok (.ifCond .eq 59, 3) := by decide +kernel
theorem dM_row_95 : decode prog_7_method_29_code 95 = .ok (.aload_n 0, 1) := by decide +kernel
theorem dM_row_96 : decode prog_7_method_29_code 96 = .ok (.getfield 72, 3) := by decide +kernel
theorem dM_row_99 : decode prog_7_method_29_code 99 = .ok (.iload_n 3, 1) := by decide +kernel
theorem dM_row_100 : decode prog_7_method_29_code 100 = .ok (.iconst 1, 1) := by decide +kernel
theorem dM_row_101 : decode prog_7_method_29_code 101 = .ok (.bastore, 1) := by decide +kernel
theorem dM_row_102 : decode prog_7_method_29_code 102 = .ok (.aload_n 0, 1) := by decide +kernel
theorem dM_row_103 : decode prog_7_method_29_code 103 = .ok (.getfield 75, 3) := by decide +kernel
theorem dM_row_106 : decode prog_7_method_29_code 106 = .ok (.iload_n 3, 1) := by decide +kernel
theorem dM_row_107 : decode prog_7_method_29_code 107 = .ok (.aload_n 0, 1) := by decide +kernel
theorem dM_row_108 : decode prog_7_method_29_code 108 = .ok (.getfield 96, 3) := by decide +kernel
theorem dM_row_111 : decode prog_7_method_29_code 111 = .ok (.iload_n 1, 1) := by decide +kernel
theorem dM_row_112 : decode prog_7_method_29_code 112 = .ok (.iaload, 1) := by decide +kernel
theorem dM_row_113 : decode prog_7_method_29_code 113 = .ok (.iastore, 1) := by decide +kernel
theorem dM_row_114 : decode prog_7_method_29_code 114 = .ok (.aload_n 0, 1) := by decide +kernel
theorem dM_row_115 : decode prog_7_method_29_code 115 = .ok (.getfield 96, 3) := by decide +kernel
theorem dM_row_118 : decode prog_7_method_29_code 118 = .ok (.iload_n 1, 1) := by decide +kernel
theorem dM_row_119 : decode prog_7_method_29_code 119 = .ok (.dup2, 1) := by decide +kernel
theorem dM_row_120 : decode prog_7_method_29_code 120 = .ok (.iaload, 1) := by decide +kernel
theorem dM_row_121 : decode prog_7_method_29_code 121 = .ok (.iconst 1, 1) := by decide +kernel
theorem dM_row_122 : decode prog_7_method_29_code 122 = .ok (.iadd, 1) := by decide +kernel
theorem dM_row_123 : decode prog_7_method_29_code 123 = .ok (.iastore, 1) := by decide +kernel
theorem dM_row_124 : decode prog_7_method_29_code 124 = .ok (.aload_n 0, 1) := by decide +kernel
theorem dM_row_125 : decode prog_7_method_29_code 125 = .ok (.getfield 99, 3) := by decide +kernel
theorem dM_row_128 : decode prog_7_method_29_code 128 = .ok (.iload_n 1, 1) := by decide +kernel
theorem dM_row_129 : decode prog_7_method_29_code 129 = .ok (.aload_n 0, 1) := by decide +kernel
theorem dM_row_130 : decode prog_7_method_29_code 130 = .ok (.getfield 65, 3) := by decide +kernel
theorem dM_row_133 : decode prog_7_method_29_code 133 = .ok (.iload_n 3, 1) := by decide +kernel
theorem dM_row_134 : decode prog_7_method_29_code 134 = .ok (.laload, 1) := by decide +kernel
theorem dM_row_135 : decode prog_7_method_29_code 135 = .ok (.lastore, 1) := by decide +kernel
theorem dM_row_136 : decode prog_7_method_29_code 136 = .ok (.aload_n 0, 1) := by decide +kernel
theorem dM_row_137 : decode prog_7_method_29_code 137 = .ok (.getfield 93, 3) := by decide +kernel
theorem dM_row_140 : decode prog_7_method_29_code 140 = .ok (.iload_n 1, 1) := by decide +kernel
theorem dM_row_141 : decode prog_7_method_29_code 141 = .ok (.aload_n 0, 1) := by decide +kernel
theorem dM_row_142 : decode prog_7_method_29_code 142 = .ok (.getfield 31, 3) := by decide +kernel
theorem dM_row_145 : decode prog_7_method_29_code 145 = .ok (.iload_n 2, 1) := by decide +kernel
theorem dM_row_146 : decode prog_7_method_29_code 146 = .ok (.iaload, 1) := by decide +kernel
theorem dM_row_147 : decode prog_7_method_29_code 147 = .ok (.iastore, 1) := by decide +kernel
theorem dM_row_148 : decode prog_7_method_29_code 148 = .ok (.goto 15, 3) := by decide +kernel
theorem dM_row_151 : decode prog_7_method_29_code 151 = .ok (.aload_n 0, 1) := by decide +kernel
theorem dM_row_152 : decode prog_7_method_29_code 152 = .ok (.getfield 93, 3) := by decide +kernel
theorem dM_row_155 : decode prog_7_method_29_code 155 = .ok (.iload_n 1, 1) := by decide +kernel
theorem dM_row_156 : decode prog_7_method_29_code 156 = .ok (.aload_n 0, 1) := by decide +kernel
theorem dM_row_157 : decode prog_7_method_29_code 157 = .ok (.getfield 37, 3) := by decide +kernel
theorem dM_row_160 : decode prog_7_method_29_code 160 = .ok (.iload_n 3, 1) := by decide +kernel
theorem dM_row_161 : decode prog_7_method_29_code 161 = .ok (.iaload, 1) := by decide +kernel
theorem dM_row_162 : decode prog_7_method_29_code 162 = .ok (.iastore, 1) := by decide +kernel
theorem dM_row_163 : decode prog_7_method_29_code 163 = .ok (.aload_n 0, 1) := by decide +kernel
theorem dM_row_164 : decode prog_7_method_29_code 164 = .ok (.getfield 93, 3) := by decide +kernel
theorem dM_row_167 : decode prog_7_method_29_code 167 = .ok (.iload_n 1, 1) := by decide +kernel
theorem dM_row_168 : decode prog_7_method_29_code 168 = .ok (.iaload, 1) := by decide +kernel
theorem dM_row_169 : decode prog_7_method_29_code 169 = .ok (.iconst (-1), 1) := by decide +kernel
theorem dM_row_170 : decode prog_7_method_29_code 170 = .ok (.if_icmp .eq 37, 3) := by decide +kernel
theorem dM_row_173 : decode prog_7_method_29_code 173 = .ok (.aload_n 0, 1) := by decide +kernel
theorem dM_row_174 : decode prog_7_method_29_code 174 = .ok (.getfield 72, 3) := by decide +kernel
theorem dM_row_177 : decode prog_7_method_29_code 177 = .ok (.aload_n 0, 1) := by decide +kernel
theorem dM_row_178 : decode prog_7_method_29_code 178 = .ok (.getfield 93, 3) := by decide +kernel
theorem dM_row_181 : decode prog_7_method_29_code 181 = .ok (.iload_n 1, 1) := by decide +kernel
theorem dM_row_182 : decode prog_7_method_29_code 182 = .ok (.iaload, 1) := by decide +kernel
theorem dM_row_183 : decode prog_7_method_29_code 183 = .ok (.baload, 1) := by decide +kernel
theorem dM_row_184 : decode prog_7_method_29_code 184 = .ok (.ifCond .eq 23, 3) := by decide +kernel
theorem dM_row_187 : decode prog_7_method_29_code 187 = .ok (.aload_n 0, 1) := by decide +kernel
theorem dM_row_188 : decode prog_7_method_29_code 188 = .ok (.getfield 93, 3) := by decide +kernel
theorem dM_row_191 : decode prog_7_method_29_code 191 = .ok (.iload_n 1, 1) := by decide +kernel
theorem dM_row_192 : decode prog_7_method_29_code 192 = .ok (.aload_n 0, 1) := by decide +kernel
theorem dM_row_193 : decode prog_7_method_29_code 193 = .ok (.getfield 37, 3) := by decide +kernel
theorem dM_row_196 : decode prog_7_method_29_code 196 = .ok (.aload_n 0, 1) := by decide +kernel
theorem dM_row_197 : decode prog_7_method_29_code 197 = .ok (.getfield 93, 3) := by decide +kernel
theorem dM_row_200 : decode prog_7_method_29_code 200 = .ok (.iload_n 1, 1) := by decide +kernel
theorem dM_row_201 : decode prog_7_method_29_code 201 = .ok (.iaload, 1) := by decide +kernel
theorem dM_row_202 : decode prog_7_method_29_code 202 = .ok (.iaload, 1) := by decide +kernel
theorem dM_row_203 : decode prog_7_method_29_code 203 = .ok (.iastore, 1) := by decide +kernel
theorem dM_row_204 : decode prog_7_method_29_code 204 = .ok (.goto (-41), 3) := by decide +kernel
theorem dM_row_207 : decode prog_7_method_29_code 207 = .ok (.aload_n 0, 1) := by decide +kernel
theorem dM_row_208 : decode prog_7_method_29_code 208 = .ok (.getfield 93, 3) := by decide +kernel
theorem dM_row_211 : decode prog_7_method_29_code 211 = .ok (.iload_n 1, 1) := by decide +kernel
theorem dM_row_212 : decode prog_7_method_29_code 212 = .ok (.iaload, 1) := by decide +kernel
theorem dM_row_213 : decode prog_7_method_29_code 213 = .ok (.iconst (-1), 1) := by decide +kernel
theorem dM_row_214 : decode prog_7_method_29_code 214 = .ok (.if_icmp .eq 20, 3) := by decide +kernel
theorem dM_row_217 : decode prog_7_method_29_code 217 = .ok (.aload_n 0, 1) := by decide +kernel
theorem dM_row_218 : decode prog_7_method_29_code 218 = .ok (.aload_n 0, 1) := by decide +kernel
theorem dM_row_219 : decode prog_7_method_29_code 219 = .ok (.getfield 93, 3) := by decide +kernel
theorem dM_row_222 : decode prog_7_method_29_code 222 = .ok (.iload_n 1, 1) := by decide +kernel
theorem dM_row_223 : decode prog_7_method_29_code 223 = .ok (.iaload, 1) := by decide +kernel
theorem dM_row_224 : decode prog_7_method_29_code 224 = .ok (.aload_n 0, 1) := by decide +kernel
theorem dM_row_225 : decode prog_7_method_29_code 225 = .ok (.getfield 99, 3) := by decide +kernel
theorem dM_row_228 : decode prog_7_method_29_code 228 = .ok (.iload_n 1, 1) := by decide +kernel
theorem dM_row_229 : decode prog_7_method_29_code 229 = .ok (.laload, 1) := by decide +kernel
theorem dM_row_230 : decode prog_7_method_29_code 230 = .ok (.invokevirtual 207, 3) := by decide +kernel
theorem dM_row_233 : decode prog_7_method_29_code 233 = .ok (.ireturn, 1) := by decide +kernel
theorem dM_row_234 : decode prog_7_method_29_code 234 = .ok (.aload_n 0, 1) := by decide +kernel
theorem dM_row_235 : decode prog_7_method_29_code 235 = .ok (.getfield 31, 3) := by decide +kernel
theorem dM_row_238 : decode prog_7_method_29_code 238 = .ok (.iload_n 2, 1) := by decide +kernel
theorem dM_row_239 : decode prog_7_method_29_code 239 = .ok (.iaload, 1) := by decide +kernel
theorem dM_row_240 : decode prog_7_method_29_code 240 = .ok (.istore_n 3, 1) := by decide +kernel
theorem dM_row_241 : decode prog_7_method_29_code 241 = .ok (.iload_n 3, 1) := by decide +kernel
theorem dM_row_242 : decode prog_7_method_29_code 242 = .ok (.iconst (-1), 1) := by decide +kernel
theorem dM_row_243 : decode prog_7_method_29_code 243 = .ok (.if_icmp .eq 39, 3) := by decide +kernel
theorem dM_row_246 : decode prog_7_method_29_code 246 = .ok (.aload_n 0, 1) := by decide +kernel
theorem dM_row_247 : decode prog_7_method_29_code 247 = .ok (.getfield 84, 3) := by decide +kernel
theorem dM_row_250 : decode prog_7_method_29_code 250 = .ok (.iload_n 2, 1) := by decide +kernel
theorem dM_row_251 : decode prog_7_method_29_code 251 = .ok (.iaload, 1) := by decide +kernel
theorem dM_row_252 : decode prog_7_method_29_code 252 = .ok (.iconst (-1), 1) := by decide +kernel
theorem dM_row_253 : decode prog_7_method_29_code 253 = .ok (.if_icmp .ne 29, 3) := by decide +kernel
theorem dM_row_256 : decode prog_7_method_29_code 256 = .ok (.aload_n 0, 1) := by decide +kernel
theorem dM_row_257 : decode prog_7_method_29_code 257 = .ok (.getfield 72, 3) := by decide +kernel
theorem dM_row_260 : decode prog_7_method_29_code 260 = .ok (.iload_n 3, 1) := by decide +kernel
theorem dM_row_261 : decode prog_7_method_29_code 261 = .ok (.baload, 1) := by decide +kernel
theorem dM_row_262 : decode prog_7_method_29_code 262 = .ok (.ifCond .ne 10, 3) := by decide +kernel
theorem dM_row_265 : decode prog_7_method_29_code 265 = .ok (.aload_n 0, 1) := by decide +kernel
theorem dM_row_266 : decode prog_7_method_29_code 266 = .ok (.getfield 84, 3) := by decide +kernel
theorem dM_row_269 : decode prog_7_method_29_code 269 = .ok (.iload_n 2, 1) := by decide +kernel
theorem dM_row_270 : decode prog_7_method_29_code 270 = .ok (.iload_n 3, 1) := by decide +kernel
theorem dM_row_271 : decode prog_7_method_29_code 271 = .ok (.iastore, 1) := by decide +kernel
theorem dM_row_272 : decode prog_7_method_29_code 272 = .ok (.aload_n 0, 1) := by decide +kernel
theorem dM_row_273 : decode prog_7_method_29_code 273 = .ok (.getfield 37, 3) := by decide +kernel
theorem dM_row_276 : decode prog_7_method_29_code 276 = .ok (.iload_n 3, 1) := by decide +kernel
theorem dM_row_277 : decode prog_7_method_29_code 277 = .ok (.iaload, 1) := by decide +kernel
theorem dM_row_278 : decode prog_7_method_29_code 278 = .ok (.istore_n 3, 1) := by decide +kernel
theorem dM_row_279 : decode prog_7_method_29_code 279 = .ok (.goto (-38), 3) := by decide +kernel
theorem dM_row_282 : decode prog_7_method_29_code 282 = .ok (.aload_n 0, 1) := by decide +kernel
theorem dM_row_283 : decode prog_7_method_29_code 283 = .ok (.iload_n 2, 1) := by decide +kernel
theorem dM_row_284 : decode prog_7_method_29_code 284 = .ok (.aload_n 0, 1) := by decide +kernel
theorem dM_row_285 : decode prog_7_method_29_code 285 = .ok (.getfield 84, 3) := by decide +kernel
theorem dM_row_288 : decode prog_7_method_29_code 288 = .ok (.iload_n 2, 1) := by decide +kernel
theorem dM_row_289 : decode prog_7_method_29_code 289 = .ok (.iaload, 1) := by decide +kernel
theorem dM_row_290 : decode prog_7_method_29_code 290 = .ok (.iconst (-1), 1) := by decide +kernel
theorem dM_row_291 : decode prog_7_method_29_code 291 = .ok (.if_icmp .ne 7, 3) := by decide +kernel
theorem dM_row_294 : decode prog_7_method_29_code 294 = .ok (.iconst 1, 1) := by decide +kernel
theorem dM_row_295 : decode prog_7_method_29_code 295 = .ok (.goto 4, 3) := by decide +kernel
theorem dM_row_298 : decode prog_7_method_29_code 298 = .ok (.iconst 0, 1) := by decide +kernel
theorem dM_row_299 : decode prog_7_method_29_code 299 = .ok (.aload_n 0, 1) := by decide +kernel
theorem dM_row_300 : decode prog_7_method_29_code 300 = .ok (.getfield 99, 3) := by decide +kernel
theorem dM_row_303 : decode prog_7_method_29_code 303 = .ok (.iload_n 1, 1) := by decide +kernel
theorem dM_row_304 : decode prog_7_method_29_code 304 = .ok (.laload, 1) := by decide +kernel
theorem dM_row_305 : decode prog_7_method_29_code 305 = .ok (.invokevirtual 211, 3) := by decide +kernel
theorem dM_row_308 : decode prog_7_method_29_code 308 = .ok (.iconst 1, 1) := by decide +kernel
theorem dM_row_309 : decode prog_7_method_29_code 309 = .ok (.ireturn, 1) := by decide +kernel
theorem dM_rowOf_0 : decode prog_7_method_17_code 0 = .ok (.lconst 0, 1) := by decide +kernel
theorem dM_rowOf_1 : decode prog_7_method_17_code 1 = .ok (.lstore_n 3, 1) := by decide +kernel
theorem dM_rowOf_2 : decode prog_7_method_17_code 2 = .ok (.iload_n 2, 1) := by decide +kernel
theorem dM_rowOf_3 : decode prog_7_method_17_code 3 = .ok (.istore 5, 2) := by decide +kernel
theorem dM_rowOf_5 : decode prog_7_method_17_code 5 = .ok (.iload 5, 2) := by decide +kernel
theorem dM_rowOf_7 : decode prog_7_method_17_code 7 = .ok (.aload_n 0, 1) := by decide +kernel
theorem dM_rowOf_8 : decode prog_7_method_17_code 8 = .ok (.getfield 43, 3) := by decide +kernel
theorem dM_rowOf_11 : decode prog_7_method_17_code 11 = .ok (.iload_n 1, 1) := by decide +kernel
theorem dM_rowOf_12 : decode prog_7_method_17_code 12 = .ok (.iaload, 1) := by decide +kernel
theorem dM_rowOf_13 : decode prog_7_method_17_code 13 = .ok (.if_icmp .ge 26, 3) := by decide +kernel
theorem dM_rowOf_16 : decode prog_7_method_17_code 16 = .ok (.lload_n 3, 1) := by decide +kernel
theorem dM_rowOf_17 : decode prog_7_method_17_code 17 = .ok (.lconst 1, 1) := by decide +kernel
theorem dM_rowOf_18 : decode prog_7_method_17_code 18 = .ok (.aload_n 0, 1) := by decide +kernel
theorem dM_rowOf_19 : decode prog_7_method_17_code 19 = .ok (.getfield 46, 3) := by decide +kernel
theorem dM_rowOf_22 : decode prog_7_method_17_code 22 = .ok (.bipush 7, 2) := by decide +kernel
theorem dM_rowOf_24 : decode prog_7_method_17_code 24 = .ok (.iload_n 1, 1) := by decide +kernel
theorem dM_rowOf_25 : decode prog_7_method_17_code 25 = .ok (.imul, 1) := by decide +kernel
theorem dM_rowOf_26 : decode prog_7_method_17_code 26 = .ok (.iload 5, 2) := by decide +kernel
theorem dM_rowOf_28 : decode prog_7_method_17_code 28 = .ok (.iadd, 1) := by decide +kernel
theorem dM_rowOf_29 : decode prog_7_method_17_code 29 = .ok (.iaload, 1) := by decide +kernel
theorem dM_rowOf_30 : decode prog_7_method_17_code 30 = .ok (.lshl, 1) := by decide +kernel
theorem dM_rowOf_31 : decode prog_7_method_17_code 31 = .ok (.lor, 1) := by decide +kernel
theorem dM_rowOf_32 : decode prog_7_method_17_code 32 = .ok (.lstore_n 3, 1) := by decide +kernel
theorem dM_rowOf_33 : decode prog_7_method_17_code 33 = .ok (.iinc 5 1, 3) := by decide +kernel
theorem dM_rowOf_36 : decode prog_7_method_17_code 36 = .ok (.goto (-31), 3) := by decide +kernel
theorem dM_rowOf_39 : decode prog_7_method_17_code 39 = .ok (.lload_n 3, 1) := by decide +kernel
theorem dM_rowOf_40 : decode prog_7_method_17_code 40 = .ok (.lreturn, 1) := by decide +kernel
theorem dM_same_0 : decode prog_7_method_23_code 0 = .ok (.aload_n 0, 1) := by decide +kernel
theorem dM_same_1 : decode prog_7_method_23_code 1 = .ok (.lload 4, 2) := by decide +kernel
theorem dM_same_3 : decode prog_7_method_23_code 3 = .ok (.iload_n 2, 1) := by decide +kernel
theorem dM_same_4 : decode prog_7_method_23_code 4 = .ok (.invokevirtual 163, 3) := by decide +kernel
theorem dM_same_7 : decode prog_7_method_23_code 7 = .ok (.istore 6, 2) := by decide +kernel
theorem dM_same_9 : decode prog_7_method_23_code 9 = .ok (.aload_n 0, 1) := by decide +kernel
theorem dM_same_10 : decode prog_7_method_23_code 10 = .ok (.lload 4, 2) := by decide +kernel
theorem dM_same_12 : decode prog_7_method_23_code 12 = .ok (.iload_n 3, 1) := by decide +kernel
theorem dM_same_13 : decode prog_7_method_23_code 13 = .ok (.invokevirtual 163, 3) := by decide +kernel
theorem dM_same_16 : decode prog_7_method_23_code 16 = .ok (.istore 7, 2) := by decide +kernel
theorem dM_same_18 : decode prog_7_method_23_code 18 = .ok (.iload 6, 2) := by decide +kernel
theorem dM_same_20 : decode prog_7_method_23_code 20 = .ok (.ifCond .ne 9, 3) := by decide +kernel
theorem dM_same_23 : decode prog_7_method_23_code 23 = .ok (.iload 7, 2) := by decide +kernel
theorem dM_same_25 : decode prog_7_method_23_code 25 = .ok (.ifCond .ne 4, 3) := by decide +kernel
theorem dM_same_28 : decode prog_7_method_23_code 28 = .ok (.return_, 1) := by decide +kernel
theorem dM_same_29 : decode prog_7_method_23_code 29 = .ok (.aload_n 0, 1) := by decide +kernel
theorem dM_same_30 : decode prog_7_method_23_code 30 = .ok (.iload_n 1, 1) := by decide +kernel
theorem dM_same_31 : decode prog_7_method_23_code 31 = .ok (.iload 6, 2) := by decide +kernel
theorem dM_same_33 : decode prog_7_method_23_code 33 = .ok (.ifCond .eq 12, 3) := by decide +kernel
theorem dM_same_36 : decode prog_7_method_23_code 36 = .ok (.iload 7, 2) := by decide +kernel
theorem dM_same_38 : decode prog_7_method_23_code 38 = .ok (.ifCond .eq 7, 3) := by decide +kernel
theorem dM_same_41 : decode prog_7_method_23_code 41 = .ok (.iconst 1, 1) := by decide +kernel
theorem dM_same_42 : decode prog_7_method_23_code 42 = .ok (.goto 13, 3) := by decide +kernel
theorem dM_same_45 : decode prog_7_method_23_code 45 = .ok (.iload 6, 2) := by decide +kernel
theorem dM_same_47 : decode prog_7_method_23_code 47 = .ok (.ifCond .eq 7, 3) := by decide +kernel
theorem dM_same_50 : decode prog_7_method_23_code 50 = .ok (.iconst 2, 1) := by decide +kernel
theorem dM_same_51 : decode prog_7_method_23_code 51 = .ok (.goto 4, 3) := by decide +kernel
theorem dM_same_54 : decode prog_7_method_23_code 54 = .ok (.iconst 3, 1) := by decide +kernel
theorem dM_same_55 : decode prog_7_method_23_code 55 = .ok (.lload 4, 2) := by decide +kernel
theorem dM_same_57 : decode prog_7_method_23_code 57 = .ok (.lconst 1, 1) := by decide +kernel
theorem dM_same_58 : decode prog_7_method_23_code 58 = .ok (.iload_n 2, 1) := by decide +kernel
theorem dM_same_59 : decode prog_7_method_23_code 59 = .ok (.lshl, 1) := by decide +kernel
theorem dM_same_60 : decode prog_7_method_23_code 60 = .ok (.lor, 1) := by decide +kernel
theorem dM_same_61 : decode prog_7_method_23_code 61 = .ok (.lconst 1, 1) := by decide +kernel
theorem dM_same_62 : decode prog_7_method_23_code 62 = .ok (.iload_n 3, 1) := by decide +kernel
theorem dM_same_63 : decode prog_7_method_23_code 63 = .ok (.lshl, 1) := by decide +kernel
theorem dM_same_64 : decode prog_7_method_23_code 64 = .ok (.lor, 1) := by decide +kernel
theorem dM_same_65 : decode prog_7_method_23_code 65 = .ok (.invokevirtual 167, 3) := by decide +kernel
theorem dM_same_68 : decode prog_7_method_23_code 68 = .ok (.return_, 1) := by decide +kernel
theorem dM_stuck_0 : decode prog_7_method_35_code 0 = .ok (.aload_n 0, 1) := by decide +kernel
theorem dM_stuck_1 : decode prog_7_method_35_code 1 = .ok (.iconst 0, 1) := by decide +kernel
theorem dM_stuck_2 : decode prog_7_method_35_code 2 = .ok (.putfield 115, 3) := by decide +kernel
theorem dM_stuck_5 : decode prog_7_method_35_code 5 = .ok (.aload_n 0, 1) := by decide +kernel
theorem dM_stuck_6 : decode prog_7_method_35_code 6 = .ok (.getfield 108, 3) := by decide +kernel
theorem dM_stuck_9 : decode prog_7_method_35_code 9 = .ok (.ireturn, 1) := by decide +kernel
theorem dM_stuckOf_0 : decode prog_7_method_33_code 0 = .ok (.iconst 0, 1) := by decide +kernel
theorem dM_stuckOf_1 : decode prog_7_method_33_code 1 = .ok (.istore_n 1, 1) := by decide +kernel
theorem dM_stuckOf_2 : decode prog_7_method_33_code 2 = .ok (.aload_n 0, 1) := by decide +kernel
theorem dM_stuckOf_3 : decode prog_7_method_33_code 3 = .ok (.getfield 19, 3) := by decide +kernel
theorem dM_stuckOf_6 : decode prog_7_method_33_code 6 = .ok (.iload_n 1, 1) := by decide +kernel
theorem dM_stuckOf_7 : decode prog_7_method_33_code 7 = .ok (.iaload, 1) := by decide +kernel
theorem dM_stuckOf_8 : decode prog_7_method_33_code 8 = .ok (.iconst 3, 1) := by decide +kernel
theorem dM_stuckOf_9 : decode prog_7_method_33_code 9 = .ok (.if_icmp .gt 23, 3) := by decide +kernel
theorem dM_stuckOf_12 : decode prog_7_method_33_code 12 = .ok (.aload_n 0, 1) := by decide +kernel
theorem dM_stuckOf_13 : decode prog_7_method_33_code 13 = .ok (.getfield 84, 3) := by decide +kernel
theorem dM_stuckOf_16 : decode prog_7_method_33_code 16 = .ok (.iload_n 1, 1) := by decide +kernel
theorem dM_stuckOf_17 : decode prog_7_method_33_code 17 = .ok (.iaload, 1) := by decide +kernel
theorem dM_stuckOf_18 : decode prog_7_method_33_code 18 = .ok (.iconst (-1), 1) := by decide +kernel
theorem dM_stuckOf_19 : decode prog_7_method_33_code 19 = .ok (.if_icmp .eq 13, 3) := by decide +kernel
theorem dM_stuckOf_22 : decode prog_7_method_33_code 22 = .ok (.aload_n 0, 1) := by decide +kernel
theorem dM_stuckOf_23 : decode prog_7_method_33_code 23 = .ok (.getfield 84, 3) := by decide +kernel
theorem dM_stuckOf_26 : decode prog_7_method_33_code 26 = .ok (.iload_n 1, 1) := by decide +kernel
theorem dM_stuckOf_27 : decode prog_7_method_33_code 27 = .ok (.iaload, 1) := by decide +kernel
theorem dM_stuckOf_28 : decode prog_7_method_33_code 28 = .ok (.istore_n 1, 1) := by decide +kernel
theorem dM_stuckOf_29 : decode prog_7_method_33_code 29 = .ok (.goto (-27), 3) := by decide +kernel
theorem dM_stuckOf_32 : decode prog_7_method_33_code 32 = .ok (.iload_n 1, 1) := by decide +kernel
theorem dM_stuckOf_33 : decode prog_7_method_33_code 33 = .ok (.ireturn, 1) := by decide +kernel
theorem dM_test_0 : decode prog_7_method_32_code 0 = .ok (.aload_n 0, 1) := by decide +kernel
theorem dM_test_1 : decode prog_7_method_32_code 1 = .ok (.getfield 28, 3) := by decide +kernel
theorem dM_test_4 : decode prog_7_method_32_code 4 = .ok (.iload_n 2, 1) := by decide +kernel
theorem dM_test_5 : decode prog_7_method_32_code 5 = .ok (.iaload, 1) := by decide +kernel
theorem dM_test_6 : decode prog_7_method_32_code 6 = .ok (.iconst 3, 1) := by decide +kernel
theorem dM_test_7 : decode prog_7_method_32_code 7 = .ok (.if_icmp .ge 12, 3) := by decide +kernel
theorem dM_test_10 : decode prog_7_method_32_code 10 = .ok (.aload_n 0, 1) := by decide +kernel
theorem dM_test_11 : decode prog_7_method_32_code 11 = .ok (.iload_n 2, 1) := by decide +kernel
theorem dM_test_12 : decode prog_7_method_32_code 12 = .ok (.iconst 0, 1) := by decide +kernel
theorem dM_test_13 : decode prog_7_method_32_code 13 = .ok (.lconst 0, 1) := by decide +kernel
theorem dM_test_14 : decode prog_7_method_32_code 14 = .ok (.invokevirtual 211, 3) := by decide +kernel
theorem dM_test_17 : decode prog_7_method_32_code 17 = .ok (.iconst 1, 1) := by decide +kernel
theorem dM_test_18 : decode prog_7_method_32_code 18 = .ok (.ireturn, 1) := by decide +kernel
theorem dM_test_19 : decode prog_7_method_32_code 19 = .ok (.aload_n 0, 1) := by decide +kernel
theorem dM_test_20 : decode prog_7_method_32_code 20 = .ok (.getfield 31, 3) := by decide +kernel
theorem dM_test_23 : decode prog_7_method_32_code 23 = .ok (.iload_n 2, 1) := by decide +kernel
theorem dM_test_24 : decode prog_7_method_32_code 24 = .ok (.iaload, 1) := by decide +kernel
theorem dM_test_25 : decode prog_7_method_32_code 25 = .ok (.istore_n 3, 1) := by decide +kernel
theorem dM_test_26 : decode prog_7_method_32_code 26 = .ok (.aload_n 0, 1) := by decide +kernel
theorem dM_test_27 : decode prog_7_method_32_code 27 = .ok (.getfield 37, 3) := by decide +kernel
theorem dM_test_30 : decode prog_7_method_32_code 30 = .ok (.iload_n 3, 1) := by decide +kernel
theorem dM_test_31 : decode prog_7_method_32_code 31 = .ok (.iaload, 1) := by decide +kernel
theorem dM_test_32 : decode prog_7_method_32_code 32 = .ok (.istore 4, 2) := by decide +kernel
theorem dM_test_34 : decode prog_7_method_32_code 34 = .ok (.aload_n 0, 1) := by decide +kernel
theorem dM_test_35 : decode prog_7_method_32_code 35 = .ok (.getfield 37, 3) := by decide +kernel
theorem dM_test_38 : decode prog_7_method_32_code 38 = .ok (.iload 4, 2) := by decide +kernel
theorem dM_test_40 : decode prog_7_method_32_code 40 = .ok (.iaload, 1) := by decide +kernel
theorem dM_test_41 : decode prog_7_method_32_code 41 = .ok (.istore 5, 2) := by decide +kernel
theorem dM_test_43 : decode prog_7_method_32_code 43 = .ok (.aload_n 0, 1) := by decide +kernel
theorem dM_test_44 : decode prog_7_method_32_code 44 = .ok (.getfield 90, 3) := by decide +kernel
theorem dM_test_47 : decode prog_7_method_32_code 47 = .ok (.iload_n 1, 1) := by decide +kernel
theorem dM_test_48 : decode prog_7_method_32_code 48 = .ok (.iaload, 1) := by decide +kernel
theorem dM_test_49 : decode prog_7_method_32_code 49 = .ok (.ifCond .ne 7, 3) := by decide +kernel
theorem dM_test_52 : decode prog_7_method_32_code 52 = .ok (.iconst (-1), 1) := by decide +kernel
theorem dM_test_53 : decode prog_7_method_32_code 53 = .ok (.goto 34, 3) := by decide +kernel
theorem dM_test_56 : decode prog_7_method_32_code 56 = .ok (.aload_n 0, 1) := by decide +kernel
theorem dM_test_57 : decode prog_7_method_32_code 57 = .ok (.getfield 90, 3) := by decide +kernel
theorem dM_test_60 : decode prog_7_method_32_code 60 = .ok (.iload_n 1, 1) := by decide +kernel
theorem dM_test_61 : decode prog_7_method_32_code 61 = .ok (.iaload, 1) := by decide +kernel
theorem dM_test_62 : decode prog_7_method_32_code 62 = .ok (.iconst 1, 1) := by decide +kernel
theorem dM_test_63 : decode prog_7_method_32_code 63 = .ok (.if_icmp .ne 7, 3) := by decide +kernel
theorem dM_test_66 : decode prog_7_method_32_code 66 = .ok (.iload_n 3, 1) := by decide +kernel
theorem dM_test_67 : decode prog_7_method_32_code 67 = .ok (.goto 20, 3) := by decide +kernel
theorem dM_test_70 : decode prog_7_method_32_code 70 = .ok (.aload_n 0, 1) := by decide +kernel
theorem dM_test_71 : decode prog_7_method_32_code 71 = .ok (.getfield 90, 3) := by decide +kernel
theorem dM_test_74 : decode prog_7_method_32_code 74 = .ok (.iload_n 1, 1) := by decide +kernel
theorem dM_test_75 : decode prog_7_method_32_code 75 = .ok (.iaload, 1) := by decide +kernel
theorem dM_test_76 : decode prog_7_method_32_code 76 = .ok (.iconst 2, 1) := by decide +kernel
theorem dM_test_77 : decode prog_7_method_32_code 77 = .ok (.if_icmp .ne 8, 3) := by decide +kernel
theorem dM_test_80 : decode prog_7_method_32_code 80 = .ok (.iload 4, 2) := by decide +kernel
theorem dM_test_82 : decode prog_7_method_32_code 82 = .ok (.goto 5, 3) := by decide +kernel
theorem dM_test_85 : decode prog_7_method_32_code 85 = .ok (.iload 5, 2) := by decide +kernel
theorem dM_test_87 : decode prog_7_method_32_code 87 = .ok (.istore 6, 2) := by decide +kernel
theorem dM_test_89 : decode prog_7_method_32_code 89 = .ok (.iload 6, 2) := by decide +kernel
theorem dM_test_91 : decode prog_7_method_32_code 91 = .ok (.iconst (-1), 1) := by decide +kernel
theorem dM_test_92 : decode prog_7_method_32_code 92 = .ok (.if_icmp .eq 17, 3) := by decide +kernel
theorem dM_test_95 : decode prog_7_method_32_code 95 = .ok (.aload_n 0, 1) := by decide +kernel
theorem dM_test_96 : decode prog_7_method_32_code 96 = .ok (.getfield 68, 3) := by decide +kernel
theorem dM_test_99 : decode prog_7_method_32_code 99 = .ok (.iload 6, 2) := by decide +kernel
theorem dM_test_101 : decode prog_7_method_32_code 101 = .ok (.baload, 1) := by decide +kernel
theorem dM_test_102 : decode prog_7_method_32_code 102 = .ok (.ifCond .ne 7, 3) := by decide +kernel
theorem dM_test_105 : decode prog_7_method_32_code 105 = .ok (.iconst 1, 1) := by decide +kernel
theorem dM_test_106 : decode prog_7_method_32_code 106 = .ok (.goto 4, 3) := by decide +kernel
theorem dM_test_109 : decode prog_7_method_32_code 109 = .ok (.iconst 0, 1) := by decide +kernel
theorem dM_test_110 : decode prog_7_method_32_code 110 = .ok (.istore 7, 2) := by decide +kernel
theorem dM_test_112 : decode prog_7_method_32_code 112 = .ok (.iload 7, 2) := by decide +kernel
theorem dM_test_114 : decode prog_7_method_32_code 114 = .ok (.ifCond .eq 11, 3) := by decide +kernel
theorem dM_test_117 : decode prog_7_method_32_code 117 = .ok (.aload_n 0, 1) := by decide +kernel
theorem dM_test_118 : decode prog_7_method_32_code 118 = .ok (.getfield 84, 3) := by decide +kernel
theorem dM_test_121 : decode prog_7_method_32_code 121 = .ok (.iload_n 2, 1) := by decide +kernel
theorem dM_test_122 : decode prog_7_method_32_code 122 = .ok (.iload 6, 2) := by decide +kernel
theorem dM_test_124 : decode prog_7_method_32_code 124 = .ok (.iastore, 1) := by decide +kernel
theorem dM_test_125 : decode prog_7_method_32_code 125 = .ok (.iload 7, 2) := by decide +kernel
theorem dM_test_127 : decode prog_7_method_32_code 127 = .ok (.ifCond .ne 50, 3) := by decide +kernel
theorem dM_test_130 : decode prog_7_method_32_code 130 = .ok (.aload_n 0, 1) := by decide +kernel
theorem dM_test_131 : decode prog_7_method_32_code 131 = .ok (.getfield 90, 3) := by decide +kernel
theorem dM_test_134 : decode prog_7_method_32_code 134 = .ok (.iload_n 1, 1) := by decide +kernel
theorem dM_test_135 : decode prog_7_method_32_code 135 = .ok (.iaload, 1) := by decide +kernel
theorem dM_test_136 : decode prog_7_method_32_code 136 = .ok (.iconst 1, 1) := by decide +kernel
theorem dM_test_137 : decode prog_7_method_32_code 137 = .ok (.if_icmp .ne 49, 3) := by decide +kernel
theorem dM_test_140 : decode prog_7_method_32_code 140 = .ok (.aload_n 0, 1) := by decide +kernel
theorem dM_test_141 : decode prog_7_method_32_code 141 = .ok (.getfield 65, 3) := by decide +kernel
theorem dM_test_144 : decode prog_7_method_32_code 144 = .ok (.iload_n 3, 1) := by decide +kernel
theorem dM_test_145 : decode prog_7_method_32_code 145 = .ok (.laload, 1) := by decide +kernel
theorem dM_test_146 : decode prog_7_method_32_code 146 = .ok (.aload_n 0, 1) := by decide +kernel
theorem dM_test_147 : decode prog_7_method_32_code 147 = .ok (.getfield 62, 3) := by decide +kernel
theorem dM_test_150 : decode prog_7_method_32_code 150 = .ok (.iload_n 2, 1) := by decide +kernel
theorem dM_test_151 : decode prog_7_method_32_code 151 = .ok (.laload, 1) := by decide +kernel
theorem dM_test_152 : decode prog_7_method_32_code 152 = .ok (.ldc2_w 215, 3) := by decide +kernel
theorem dM_test_155 : decode prog_7_method_32_code 155 = .ok (.lxor, 1) := by decide +kernel
theorem dM_test_156 : decode prog_7_method_32_code 156 = .ok (.land, 1) := by decide +kernel
theorem dM_test_157 : decode prog_7_method_32_code 157 = .ok (.aload_n 0, 1) := by decide +kernel
theorem dM_test_158 : decode prog_7_method_32_code 158 = .ok (.getfield 55, 3) := by decide +kernel
theorem dM_test_161 : decode prog_7_method_32_code 161 = .ok (.iload_n 2, 1) := by decide +kernel
theorem dM_test_162 : decode prog_7_method_32_code 162 = .ok (.laload, 1) := by decide +kernel
theorem dM_test_163 : decode prog_7_method_32_code 163 = .ok (.aload_n 0, 1) := by decide +kernel
theorem dM_test_164 : decode prog_7_method_32_code 164 = .ok (.getfield 59, 3) := by decide +kernel
theorem dM_test_167 : decode prog_7_method_32_code 167 = .ok (.iload 5, 2) := by decide +kernel
theorem dM_test_169 : decode prog_7_method_32_code 169 = .ok (.laload, 1) := by decide +kernel
theorem dM_test_170 : decode prog_7_method_32_code 170 = .ok (.lor, 1) := by decide +kernel
theorem dM_test_171 : decode prog_7_method_32_code 171 = .ok (.land, 1) := by decide +kernel
theorem dM_test_172 : decode prog_7_method_32_code 172 = .ok (.lconst 0, 1) := by decide +kernel
theorem dM_test_173 : decode prog_7_method_32_code 173 = .ok (.lcmp, 1) := by decide +kernel
theorem dM_test_174 : decode prog_7_method_32_code 174 = .ok (.ifCond .eq 12, 3) := by decide +kernel
theorem dM_test_177 : decode prog_7_method_32_code 177 = .ok (.aload_n 0, 1) := by decide +kernel
theorem dM_test_178 : decode prog_7_method_32_code 178 = .ok (.iload_n 2, 1) := by decide +kernel
theorem dM_test_179 : decode prog_7_method_32_code 179 = .ok (.iconst 0, 1) := by decide +kernel
theorem dM_test_180 : decode prog_7_method_32_code 180 = .ok (.lconst 0, 1) := by decide +kernel
theorem dM_test_181 : decode prog_7_method_32_code 181 = .ok (.invokevirtual 211, 3) := by decide +kernel
theorem dM_test_184 : decode prog_7_method_32_code 184 = .ok (.iconst 1, 1) := by decide +kernel
theorem dM_test_185 : decode prog_7_method_32_code 185 = .ok (.ireturn, 1) := by decide +kernel
theorem dM_test_186 : decode prog_7_method_32_code 186 = .ok (.aload_n 0, 1) := by decide +kernel
theorem dM_test_187 : decode prog_7_method_32_code 187 = .ok (.getfield 90, 3) := by decide +kernel
theorem dM_test_190 : decode prog_7_method_32_code 190 = .ok (.iload_n 1, 1) := by decide +kernel
theorem dM_test_191 : decode prog_7_method_32_code 191 = .ok (.dup2, 1) := by decide +kernel
theorem dM_test_192 : decode prog_7_method_32_code 192 = .ok (.iaload, 1) := by decide +kernel
theorem dM_test_193 : decode prog_7_method_32_code 193 = .ok (.iconst 1, 1) := by decide +kernel
theorem dM_test_194 : decode prog_7_method_32_code 194 = .ok (.iadd, 1) := by decide +kernel
theorem dM_test_195 : decode prog_7_method_32_code 195 = .ok (.iastore, 1) := by decide +kernel
theorem dM_test_196 : decode prog_7_method_32_code 196 = .ok (.aload_n 0, 1) := by decide +kernel
theorem dM_test_197 : decode prog_7_method_32_code 197 = .ok (.getfield 90, 3) := by decide +kernel
theorem dM_test_200 : decode prog_7_method_32_code 200 = .ok (.iload_n 1, 1) := by decide +kernel
theorem dM_test_201 : decode prog_7_method_32_code 201 = .ok (.iaload, 1) := by decide +kernel
theorem dM_test_202 : decode prog_7_method_32_code 202 = .ok (.iconst 1, 1) := by decide +kernel
theorem dM_test_203 : decode prog_7_method_32_code 203 = .ok (.if_icmp .ne 15, 3) := by decide +kernel
theorem dM_test_206 : decode prog_7_method_32_code 206 = .ok (.aload_n 0, 1) := by decide +kernel
theorem dM_test_207 : decode prog_7_method_32_code 207 = .ok (.iload_n 3, 1) := by decide +kernel
theorem dM_test_208 : decode prog_7_method_32_code 208 = .ok (.aload_n 0, 1) := by decide +kernel
theorem dM_test_209 : decode prog_7_method_32_code 209 = .ok (.getfield 62, 3) := by decide +kernel
theorem dM_test_212 : decode prog_7_method_32_code 212 = .ok (.iload_n 2, 1) := by decide +kernel
theorem dM_test_213 : decode prog_7_method_32_code 213 = .ok (.laload, 1) := by decide +kernel
theorem dM_test_214 : decode prog_7_method_32_code 214 = .ok (.invokevirtual 207, 3) := by decide +kernel
theorem dM_test_217 : decode prog_7_method_32_code 217 = .ok (.ireturn, 1) := by decide +kernel
theorem dM_test_218 : decode prog_7_method_32_code 218 = .ok (.aload_n 0, 1) := by decide +kernel
theorem dM_test_219 : decode prog_7_method_32_code 219 = .ok (.getfield 90, 3) := by decide +kernel
theorem dM_test_222 : decode prog_7_method_32_code 222 = .ok (.iload_n 1, 1) := by decide +kernel
theorem dM_test_223 : decode prog_7_method_32_code 223 = .ok (.iaload, 1) := by decide +kernel
theorem dM_test_224 : decode prog_7_method_32_code 224 = .ok (.iconst 2, 1) := by decide +kernel
theorem dM_test_225 : decode prog_7_method_32_code 225 = .ok (.if_icmp .ne 16, 3) := by decide +kernel
theorem dM_test_228 : decode prog_7_method_32_code 228 = .ok (.aload_n 0, 1) := by decide +kernel
theorem dM_test_229 : decode prog_7_method_32_code 229 = .ok (.iload 4, 2) := by decide +kernel
theorem dM_test_231 : decode prog_7_method_32_code 231 = .ok (.aload_n 0, 1) := by decide +kernel
theorem dM_test_232 : decode prog_7_method_32_code 232 = .ok (.getfield 65, 3) := by decide +kernel
theorem dM_test_235 : decode prog_7_method_32_code 235 = .ok (.iload_n 3, 1) := by decide +kernel
theorem dM_test_236 : decode prog_7_method_32_code 236 = .ok (.laload, 1) := by decide +kernel
theorem dM_test_237 : decode prog_7_method_32_code 237 = .ok (.invokevirtual 207, 3) := by decide +kernel
theorem dM_test_240 : decode prog_7_method_32_code 240 = .ok (.ireturn, 1) := by decide +kernel
theorem dM_test_241 : decode prog_7_method_32_code 241 = .ok (.aload_n 0, 1) := by decide +kernel
theorem dM_test_242 : decode prog_7_method_32_code 242 = .ok (.getfield 90, 3) := by decide +kernel
theorem dM_test_245 : decode prog_7_method_32_code 245 = .ok (.iload_n 1, 1) := by decide +kernel
theorem dM_test_246 : decode prog_7_method_32_code 246 = .ok (.iaload, 1) := by decide +kernel
theorem dM_test_247 : decode prog_7_method_32_code 247 = .ok (.iconst 3, 1) := by decide +kernel
theorem dM_test_248 : decode prog_7_method_32_code 248 = .ok (.if_icmp .ne 16, 3) := by decide +kernel
theorem dM_test_251 : decode prog_7_method_32_code 251 = .ok (.aload_n 0, 1) := by decide +kernel
theorem dM_test_252 : decode prog_7_method_32_code 252 = .ok (.iload 5, 2) := by decide +kernel
theorem dM_test_254 : decode prog_7_method_32_code 254 = .ok (.aload_n 0, 1) := by decide +kernel
theorem dM_test_255 : decode prog_7_method_32_code 255 = .ok (.getfield 62, 3) := by decide +kernel
theorem dM_test_258 : decode prog_7_method_32_code 258 = .ok (.iload_n 2, 1) := by decide +kernel
theorem dM_test_259 : decode prog_7_method_32_code 259 = .ok (.laload, 1) := by decide +kernel
theorem dM_test_260 : decode prog_7_method_32_code 260 = .ok (.invokevirtual 207, 3) := by decide +kernel
theorem dM_test_263 : decode prog_7_method_32_code 263 = .ok (.ireturn, 1) := by decide +kernel
theorem dM_test_264 : decode prog_7_method_32_code 264 = .ok (.aload_n 0, 1) := by decide +kernel
theorem dM_test_265 : decode prog_7_method_32_code 265 = .ok (.getfield 55, 3) := by decide +kernel
theorem dM_test_268 : decode prog_7_method_32_code 268 = .ok (.iload_n 2, 1) := by decide +kernel
theorem dM_test_269 : decode prog_7_method_32_code 269 = .ok (.laload, 1) := by decide +kernel
theorem dM_test_270 : decode prog_7_method_32_code 270 = .ok (.aload_n 0, 1) := by decide +kernel
theorem dM_test_271 : decode prog_7_method_32_code 271 = .ok (.getfield 62, 3) := by decide +kernel
theorem dM_test_274 : decode prog_7_method_32_code 274 = .ok (.iload_n 2, 1) := by decide +kernel
theorem dM_test_275 : decode prog_7_method_32_code 275 = .ok (.laload, 1) := by decide +kernel
theorem dM_test_276 : decode prog_7_method_32_code 276 = .ok (.ldc2_w 215, 3) := by decide +kernel
theorem dM_test_279 : decode prog_7_method_32_code 279 = .ok (.lxor, 1) := by decide +kernel
theorem dM_test_280 : decode prog_7_method_32_code 280 = .ok (.land, 1) := by decide +kernel
theorem dM_test_281 : decode prog_7_method_32_code 281 = .ok (.lstore 8, 2) := by decide +kernel
theorem dM_test_283 : decode prog_7_method_32_code 283 = .ok (.aload_n 0, 1) := by decide +kernel
theorem dM_test_284 : decode prog_7_method_32_code 284 = .ok (.iload_n 2, 1) := by decide +kernel
theorem dM_test_285 : decode prog_7_method_32_code 285 = .ok (.aload_n 0, 1) := by decide +kernel
theorem dM_test_286 : decode prog_7_method_32_code 286 = .ok (.getfield 65, 3) := by decide +kernel
theorem dM_test_289 : decode prog_7_method_32_code 289 = .ok (.iload 4, 2) := by decide +kernel
theorem dM_test_291 : decode prog_7_method_32_code 291 = .ok (.laload, 1) := by decide +kernel
theorem dM_test_292 : decode prog_7_method_32_code 292 = .ok (.lload 8, 2) := by decide +kernel
theorem dM_test_294 : decode prog_7_method_32_code 294 = .ok (.land, 1) := by decide +kernel
theorem dM_test_295 : decode prog_7_method_32_code 295 = .ok (.aload_n 0, 1) := by decide +kernel
theorem dM_test_296 : decode prog_7_method_32_code 296 = .ok (.getfield 65, 3) := by decide +kernel
theorem dM_test_299 : decode prog_7_method_32_code 299 = .ok (.iload 5, 2) := by decide +kernel
theorem dM_test_301 : decode prog_7_method_32_code 301 = .ok (.laload, 1) := by decide +kernel
theorem dM_test_302 : decode prog_7_method_32_code 302 = .ok (.lload 8, 2) := by decide +kernel
theorem dM_test_304 : decode prog_7_method_32_code 304 = .ok (.land, 1) := by decide +kernel
theorem dM_test_305 : decode prog_7_method_32_code 305 = .ok (.lcmp, 1) := by decide +kernel
theorem dM_test_306 : decode prog_7_method_32_code 306 = .ok (.ifCond .ne 7, 3) := by decide +kernel
theorem dM_test_309 : decode prog_7_method_32_code 309 = .ok (.iconst 1, 1) := by decide +kernel
theorem dM_test_310 : decode prog_7_method_32_code 310 = .ok (.goto 4, 3) := by decide +kernel
theorem dM_test_313 : decode prog_7_method_32_code 313 = .ok (.iconst 0, 1) := by decide +kernel
theorem dM_test_314 : decode prog_7_method_32_code 314 = .ok (.aload_n 0, 1) := by decide +kernel
theorem dM_test_315 : decode prog_7_method_32_code 315 = .ok (.getfield 62, 3) := by decide +kernel
theorem dM_test_318 : decode prog_7_method_32_code 318 = .ok (.iload_n 2, 1) := by decide +kernel
theorem dM_test_319 : decode prog_7_method_32_code 319 = .ok (.laload, 1) := by decide +kernel
theorem dM_test_320 : decode prog_7_method_32_code 320 = .ok (.aload_n 0, 1) := by decide +kernel
theorem dM_test_321 : decode prog_7_method_32_code 321 = .ok (.getfield 65, 3) := by decide +kernel
theorem dM_test_324 : decode prog_7_method_32_code 324 = .ok (.iload 4, 2) := by decide +kernel
theorem dM_test_326 : decode prog_7_method_32_code 326 = .ok (.laload, 1) := by decide +kernel
theorem dM_test_327 : decode prog_7_method_32_code 327 = .ok (.aload_n 0, 1) := by decide +kernel
theorem dM_test_328 : decode prog_7_method_32_code 328 = .ok (.getfield 65, 3) := by decide +kernel
theorem dM_test_331 : decode prog_7_method_32_code 331 = .ok (.iload 5, 2) := by decide +kernel
theorem dM_test_333 : decode prog_7_method_32_code 333 = .ok (.laload, 1) := by decide +kernel
theorem dM_test_334 : decode prog_7_method_32_code 334 = .ok (.land, 1) := by decide +kernel
theorem dM_test_335 : decode prog_7_method_32_code 335 = .ok (.lload 8, 2) := by decide +kernel
theorem dM_test_337 : decode prog_7_method_32_code 337 = .ok (.land, 1) := by decide +kernel
theorem dM_test_338 : decode prog_7_method_32_code 338 = .ok (.lor, 1) := by decide +kernel
theorem dM_test_339 : decode prog_7_method_32_code 339 = .ok (.invokevirtual 211, 3) := by decide +kernel
theorem dM_test_342 : decode prog_7_method_32_code 342 = .ok (.iconst 1, 1) := by decide +kernel
theorem dM_test_343 : decode prog_7_method_32_code 343 = .ok (.ireturn, 1) := by decide +kernel
theorem dM_tried_0 : decode prog_7_method_26_code 0 = .ok (.aload_n 0, 1) := by decide +kernel
theorem dM_tried_1 : decode prog_7_method_26_code 1 = .ok (.getfield 186, 3) := by decide +kernel
theorem dM_tried_4 : decode prog_7_method_26_code 4 = .ok (.sipush 20000, 3) := by decide +kernel
theorem dM_tried_7 : decode prog_7_method_26_code 7 = .ok (.if_icmp .ne 5, 3) := by decide +kernel
theorem dM_tried_10 : decode prog_7_method_26_code 10 = .ok (.iconst 0, 1) := by decide +kernel
theorem dM_tried_11 : decode prog_7_method_26_code 11 = .ok (.ireturn, 1) := by decide +kernel
theorem dM_tried_12 : decode prog_7_method_26_code 12 = .ok (.aload_n 0, 1) := by decide +kernel
theorem dM_tried_13 : decode prog_7_method_26_code 13 = .ok (.dup, 1) := by decide +kernel
theorem dM_tried_14 : decode prog_7_method_26_code 14 = .ok (.getfield 186, 3) := by decide +kernel
theorem dM_tried_17 : decode prog_7_method_26_code 17 = .ok (.iconst 1, 1) := by decide +kernel
theorem dM_tried_18 : decode prog_7_method_26_code 18 = .ok (.iadd, 1) := by decide +kernel
theorem dM_tried_19 : decode prog_7_method_26_code 19 = .ok (.putfield 186, 3) := by decide +kernel
theorem dM_tried_22 : decode prog_7_method_26_code 22 = .ok (.aload_n 0, 1) := by decide +kernel
theorem dM_tried_23 : decode prog_7_method_26_code 23 = .ok (.getfield 62, 3) := by decide +kernel
theorem dM_tried_26 : decode prog_7_method_26_code 26 = .ok (.iload_n 1, 1) := by decide +kernel
theorem dM_tried_27 : decode prog_7_method_26_code 27 = .ok (.lload_n 2, 1) := by decide +kernel
theorem dM_tried_28 : decode prog_7_method_26_code 28 = .ok (.lastore, 1) := by decide +kernel
theorem dM_tried_29 : decode prog_7_method_26_code 29 = .ok (.aload_n 0, 1) := by decide +kernel
theorem dM_tried_30 : decode prog_7_method_26_code 30 = .ok (.getfield 68, 3) := by decide +kernel
theorem dM_tried_33 : decode prog_7_method_26_code 33 = .ok (.iload_n 1, 1) := by decide +kernel
theorem dM_tried_34 : decode prog_7_method_26_code 34 = .ok (.iconst 0, 1) := by decide +kernel
theorem dM_tried_35 : decode prog_7_method_26_code 35 = .ok (.bastore, 1) := by decide +kernel
theorem dM_tried_36 : decode prog_7_method_26_code 36 = .ok (.aload_n 0, 1) := by decide +kernel
theorem dM_tried_37 : decode prog_7_method_26_code 37 = .ok (.getfield 84, 3) := by decide +kernel
theorem dM_tried_40 : decode prog_7_method_26_code 40 = .ok (.iload_n 1, 1) := by decide +kernel
theorem dM_tried_41 : decode prog_7_method_26_code 41 = .ok (.iconst (-1), 1) := by decide +kernel
theorem dM_tried_42 : decode prog_7_method_26_code 42 = .ok (.iastore, 1) := by decide +kernel
theorem dM_tried_43 : decode prog_7_method_26_code 43 = .ok (.aload_n 0, 1) := by decide +kernel
theorem dM_tried_44 : decode prog_7_method_26_code 44 = .ok (.getfield 19, 3) := by decide +kernel
theorem dM_tried_47 : decode prog_7_method_26_code 47 = .ok (.iload_n 1, 1) := by decide +kernel
theorem dM_tried_48 : decode prog_7_method_26_code 48 = .ok (.iaload, 1) := by decide +kernel
theorem dM_tried_49 : decode prog_7_method_26_code 49 = .ok (.iconst 3, 1) := by decide +kernel
theorem dM_tried_50 : decode prog_7_method_26_code 50 = .ok (.if_icmp .le 10, 3) := by decide +kernel
theorem dM_tried_53 : decode prog_7_method_26_code 53 = .ok (.aload_n 0, 1) := by decide +kernel
theorem dM_tried_54 : decode prog_7_method_26_code 54 = .ok (.iload_n 1, 1) := by decide +kernel
theorem dM_tried_55 : decode prog_7_method_26_code 55 = .ok (.invokevirtual 189, 3) := by decide +kernel
theorem dM_tried_58 : decode prog_7_method_26_code 58 = .ok (.iconst 1, 1) := by decide +kernel
theorem dM_tried_59 : decode prog_7_method_26_code 59 = .ok (.ireturn, 1) := by decide +kernel
theorem dM_tried_60 : decode prog_7_method_26_code 60 = .ok (.aload_n 0, 1) := by decide +kernel
theorem dM_tried_61 : decode prog_7_method_26_code 61 = .ok (.getfield 87, 3) := by decide +kernel
theorem dM_tried_64 : decode prog_7_method_26_code 64 = .ok (.aload_n 0, 1) := by decide +kernel
theorem dM_tried_65 : decode prog_7_method_26_code 65 = .ok (.getfield 193, 3) := by decide +kernel
theorem dM_tried_68 : decode prog_7_method_26_code 68 = .ok (.iload_n 1, 1) := by decide +kernel
theorem dM_tried_69 : decode prog_7_method_26_code 69 = .ok (.iastore, 1) := by decide +kernel
theorem dM_tried_70 : decode prog_7_method_26_code 70 = .ok (.aload_n 0, 1) := by decide +kernel
theorem dM_tried_71 : decode prog_7_method_26_code 71 = .ok (.getfield 90, 3) := by decide +kernel
theorem dM_tried_74 : decode prog_7_method_26_code 74 = .ok (.aload_n 0, 1) := by decide +kernel
theorem dM_tried_75 : decode prog_7_method_26_code 75 = .ok (.getfield 193, 3) := by decide +kernel
theorem dM_tried_78 : decode prog_7_method_26_code 78 = .ok (.iconst 0, 1) := by decide +kernel
theorem dM_tried_79 : decode prog_7_method_26_code 79 = .ok (.iastore, 1) := by decide +kernel
theorem dM_tried_80 : decode prog_7_method_26_code 80 = .ok (.aload_n 0, 1) := by decide +kernel
theorem dM_tried_81 : decode prog_7_method_26_code 81 = .ok (.dup, 1) := by decide +kernel
theorem dM_tried_82 : decode prog_7_method_26_code 82 = .ok (.getfield 193, 3) := by decide +kernel
theorem dM_tried_85 : decode prog_7_method_26_code 85 = .ok (.iconst 1, 1) := by decide +kernel
theorem dM_tried_86 : decode prog_7_method_26_code 86 = .ok (.iadd, 1) := by decide +kernel
theorem dM_tried_87 : decode prog_7_method_26_code 87 = .ok (.putfield 193, 3) := by decide +kernel
theorem dM_tried_90 : decode prog_7_method_26_code 90 = .ok (.iconst 1, 1) := by decide +kernel
theorem dM_tried_91 : decode prog_7_method_26_code 91 = .ok (.ireturn, 1) := by decide +kernel
theorem dM_wanted_0 : decode prog_7_method_16_code 0 = .ok (.aload_n 0, 1) := by decide +kernel
theorem dM_wanted_1 : decode prog_7_method_16_code 1 = .ok (.iconst 0, 1) := by decide +kernel
theorem dM_wanted_2 : decode prog_7_method_16_code 2 = .ok (.putfield 115, 3) := by decide +kernel
theorem dM_wanted_5 : decode prog_7_method_16_code 5 = .ok (.iload_n 1, 1) := by decide +kernel
theorem dM_wanted_6 : decode prog_7_method_16_code 6 = .ok (.invokestatic 145, 3) := by decide +kernel
theorem dM_wanted_9 : decode prog_7_method_16_code 9 = .ok (.ifCond .eq 25, 3) := by decide +kernel
theorem dM_wanted_12 : decode prog_7_method_16_code 12 = .ok (.aload_n 0, 1) := by decide +kernel
theorem dM_wanted_13 : decode prog_7_method_16_code 13 = .ok (.getfield 128, 3) := by decide +kernel
theorem dM_wanted_16 : decode prog_7_method_16_code 16 = .ok (.iload_n 1, 1) := by decide +kernel
theorem dM_wanted_17 : decode prog_7_method_16_code 17 = .ok (.lshr, 1) := by decide +kernel
theorem dM_wanted_18 : decode prog_7_method_16_code 18 = .ok (.lconst 1, 1) := by decide +kernel
theorem dM_wanted_19 : decode prog_7_method_16_code 19 = .ok (.land, 1) := by decide +kernel
theorem dM_wanted_20 : decode prog_7_method_16_code 20 = .ok (.lconst 1, 1) := by decide +kernel
theorem dM_wanted_21 : decode prog_7_method_16_code 21 = .ok (.lcmp, 1) := by decide +kernel
theorem dM_wanted_22 : decode prog_7_method_16_code 22 = .ok (.ifCond .ne 7, 3) := by decide +kernel
theorem dM_wanted_25 : decode prog_7_method_16_code 25 = .ok (.iconst 1, 1) := by decide +kernel
theorem dM_wanted_26 : decode prog_7_method_16_code 26 = .ok (.goto 4, 3) := by decide +kernel
theorem dM_wanted_29 : decode prog_7_method_16_code 29 = .ok (.iconst 0, 1) := by decide +kernel
theorem dM_wanted_30 : decode prog_7_method_16_code 30 = .ok (.iload_n 2, 1) := by decide +kernel
theorem dM_wanted_31 : decode prog_7_method_16_code 31 = .ok (.if_icmp .ne 5, 3) := by decide +kernel
theorem dM_wanted_34 : decode prog_7_method_16_code 34 = .ok (.iconst 0, 1) := by decide +kernel
theorem dM_wanted_35 : decode prog_7_method_16_code 35 = .ok (.ireturn, 1) := by decide +kernel
theorem dM_wanted_36 : decode prog_7_method_16_code 36 = .ok (.aload_n 0, 1) := by decide +kernel
theorem dM_wanted_37 : decode prog_7_method_16_code 37 = .ok (.aload_n 0, 1) := by decide +kernel
theorem dM_wanted_38 : decode prog_7_method_16_code 38 = .ok (.getfield 128, 3) := by decide +kernel
theorem dM_wanted_41 : decode prog_7_method_16_code 41 = .ok (.lconst 1, 1) := by decide +kernel
theorem dM_wanted_42 : decode prog_7_method_16_code 42 = .ok (.iload_n 1, 1) := by decide +kernel
theorem dM_wanted_43 : decode prog_7_method_16_code 43 = .ok (.lshl, 1) := by decide +kernel
theorem dM_wanted_44 : decode prog_7_method_16_code 44 = .ok (.lxor, 1) := by decide +kernel
theorem dM_wanted_45 : decode prog_7_method_16_code 45 = .ok (.putfield 128, 3) := by decide +kernel
theorem dM_wanted_48 : decode prog_7_method_16_code 48 = .ok (.aload_n 0, 1) := by decide +kernel
theorem dM_wanted_49 : decode prog_7_method_16_code 49 = .ok (.invokevirtual 135, 3) := by decide +kernel
theorem dM_wanted_52 : decode prog_7_method_16_code 52 = .ok (.iconst 1, 1) := by decide +kernel
theorem dM_wanted_53 : decode prog_7_method_16_code 53 = .ok (.ireturn, 1) := by decide +kernel
